/** Each sentence of the 17 promises, at its edges: empty, full, too small, too large, refused. */
public final class PromisesBoundaryTest {
    private static final Check check = new Check();
    private static final int GREATEST = Check.GREATEST;
    private static final int LEAST = Check.LEAST;

    private static final String[] HEADINGS = {
        "Promise 1: A new object", "Promise 2: feed", "Promise 3: erase", "Promise 4: fromEights",
        "Promise 5: fromSixteens", "Promise 6: fromLetters", "Promise 7: mend",
        "Promise 8: toEights", "Promise 9: toSixteens", "Promise 10: toLetters",
        "Promise 11: turn", "Promise 12: count", "Promise 13: point", "Promise 14: length",
        "Promise 15: out", "Promise 16: keep", "Promise 17: compare"
    };

    public static void main(String[] args) {
        newObject();
        feedBehind();
        feedFalseWhenThereAre120();
        eraseLeavesNone();
        eraseHowMany();
        eightsBecomeTheList();
        eightsNotWellFormed();
        sixteensBecomeTheList();
        sixteensNotWellFormed();
        lettersBecomeTheList();
        lettersLastHyphen();
        lettersNoHyphen();
        lettersHowManyOrTheListStays();
        lettersPlainUnitTooSmallOrTooLarge();
        lettersNoDigit();
        lettersNoneAnyMore();
        lettersOverflowOfANumber();
        lettersOverflowOfWhatItGives();
        lettersNoScalar();
        mendEightsOrSixteens();
        mendLongestScalar();
        mendLongestGoodBeginning();
        mendOneUnit();
        mendHowMany();
        toEightsBecomesTheOutput();
        toEightsMoreThan400();
        toSixteensMost();
        toLettersMoreThan400();
        turnBecomesTheInput();
        turnMoreThan120();
        countLeastAndGreatest();
        pointOutside();
        lengthLeastAndGreatest();
        outOutside();
        keepInPlaceOfTheOld();
        keepTheEmptyOneAtFirst();
        compareSame();
        compareFirstDifference();
        compareShorterFirst();
        compareByScalars();
        compareBySixteens();
        atMost512Calls();
        for (String heading : HEADINGS) {
            check.dueAllQuoted(heading);
        }
        check.end();
    }

    private static void promise(int number, String words) {
        check.about(HEADINGS[number - 1], words);
    }

    private static void letters(String text, int... scalars) {
        check.reads(By.LETTERS, Check.units(text), scalars);
    }

    private static void lettersRefused(int answer, int... units) {
        check.refuses(By.LETTERS, answer, units);
    }

    private static void lettersRefused(int answer, String text) {
        check.refuses(By.LETTERS, answer, Check.units(text));
    }

    private static void newObject() {
        promise(1, "No input, no list, no output.");
        check.due("input", new ScalarScribe().erase(), 0);
        check.due("list", new ScalarScribe().count(), 0);
        check.due("output", new ScalarScribe().length(), 0);
        check.due("no scalar", new ScalarScribe().point(0), -1);
        check.due("no unit", new ScalarScribe().out(0), -1);
        check.due("turn", new ScalarScribe().turn(), 0);
        check.due("mend(true)", new ScalarScribe().mend(true), 0);
        check.due("mend(false)", new ScalarScribe().mend(false), 0);
        for (By way : By.values()) {
            check.due("read " + way, way.from(new ScalarScribe()), 0);
            check.due("write " + way, way.to(new ScalarScribe()), 0);
        }
        // Nothing of one object is in another.
        ScalarScribe used = Check.fedText("abc");
        used.fromEights();
        used.toEights();
        used.keep();
        ScalarScribe x = new ScalarScribe();
        check.due("its input", x.erase(), 0);
        check.due("its list", x.count(), 0);
        check.due("its output", x.length(), 0);
        check.due("what it remembers", x.compare(false), 0);
    }

    private static void feedBehind() {
        promise(2, "Puts a unit behind the input.");
        ScalarScribe x = Check.fed(0);
        x.feed(127);
        x.feed(1);
        check.due("read", x.fromEights(), 3);
        check.dueRow("in their order", Check.listOf(x), 0, 127, 1);
    }

    private static void feedFalseWhenThereAre120() {
        promise(2, "Answers true; false when there are 120.");
        ScalarScribe x = new ScalarScribe();
        for (int i = 0; i < 120; i++) {
            check.due("unit " + i, x.feed(i), true);
        }
        check.due("one more", x.feed(120), false);
        check.due("and again", x.feed(LEAST), false);
        check.due("none of them is put in", x.fromEights(), 120);
        check.due("the first stays", x.point(0), 0);
        check.due("the last stays", x.point(119), 119);
        check.due("120 in all", x.erase(), 120);
        check.due("there is room then", x.feed(GREATEST), true);

        ScalarScribe turned = check.pairs(60);
        turned.toSixteens();
        turned.turn();
        check.due("120 that were turned", turned.feed(65), false);
        ScalarScribe less = check.listed(Check.repeated(65, 119));
        less.toSixteens();
        less.turn();
        check.due("119 that were turned", less.feed(65), true);
        check.due("120 then", less.feed(65), false);
    }

    private static void eraseLeavesNone() {
        promise(3, "The input has no units then.");
        ScalarScribe x = Check.fed(Check.repeated(65, 120));
        x.fromEights();
        x.toEights();
        x.erase();
        check.due("none", x.erase(), 0);
        check.due("the list stays", x.count(), 120);
        check.due("the output stays", x.length(), 120);
        x.feed(66);
        check.due("nothing of the old one", x.fromEights(), 1);
        check.due("but the new one", x.point(0), 66);
    }

    private static void eraseHowMany() {
        promise(3, "Answers how many it had.");
        check.due("none", new ScalarScribe().erase(), 0);
        check.due("one", Check.fed(LEAST).erase(), 1);
        check.due("120", Check.fed(Check.repeated(0, 120)).erase(), 120);
        check.due("no more than 120", Check.fed(Check.repeated(0, 121)).erase(), 120);
        ScalarScribe x = check.pairs(60);
        x.toSixteens();
        x.turn();
        check.due("120 that were turned", x.erase(), 120);
    }

    private static void eightsBecomeTheList() {
        promise(4, "Reads the input by eights: it becomes the list.");
        check.reads(By.EIGHTS, Check.row());
        check.reads(By.EIGHTS, Check.row(0), 0);
        check.reads(By.EIGHTS, Check.repeated(127, 120), Check.repeated(127, 120));
        int[] fours = new int[120];
        for (int i = 0; i < 120; i++) {
            fours[i] = new int[] {244, 143, 191, 191}[i % 4];
        }
        check.reads(By.EIGHTS, fours, Check.repeated(1114111, 30));
    }

    private static void eightsNotWellFormed() {
        promise(4, "Answers how many scalars; if it is not well formed, -1 - p, with p the length"
                + " of its longest good beginning, and the list stays.");
        check.reads(By.EIGHTS, Check.row());
        check.refuses(By.EIGHTS, -1, 128);
        check.refuses(By.EIGHTS, -1, 255, 65);
        check.refuses(By.EIGHTS, -1, LEAST);
        check.refuses(By.EIGHTS, -1, GREATEST);
        check.refuses(By.EIGHTS, -2, 226);
        check.refuses(By.EIGHTS, -3, 226, 130);
        check.refuses(By.EIGHTS, -3, 226, 130, 226, 130, 172);
        check.refuses(By.EIGHTS, -4, 226, 130, 172, 128);
        // The least and the greatest p of a full input, which is one less than it is or all of it.
        check.refuses(By.EIGHTS, -1, Check.repeated(128, 120));
        check.refuses(By.EIGHTS, -120, Check.joined(Check.repeated(65, 119), 128));
        check.refuses(By.EIGHTS, -121, Check.joined(Check.repeated(65, 119), 194));
        check.refuses(By.EIGHTS, -121, Check.joined(Check.repeated(65, 118), 224, 160));

        ScalarScribe full = Check.fed(Check.repeated(65, 120));
        full.fromEights();
        full.erase();
        Check.feedAll(full, 66, 128);
        check.due("refused", full.fromEights(), -2);
        check.dueRow("a full list stays whole", Check.listOf(full), Check.repeated(65, 120));
        ScalarScribe none = Check.fed(66, 128);
        check.due("refused at first", none.fromEights(), -2);
        check.due("the empty list stays", none.count(), 0);
    }

    private static void sixteensBecomeTheList() {
        promise(5, "Likewise by sixteens.");
        check.reads(By.SIXTEENS, Check.row());
        check.reads(By.SIXTEENS, Check.row(0), 0);
        check.reads(By.SIXTEENS, Check.repeated(65535, 120), Check.repeated(65535, 120));
        int[] pairs = new int[120];
        for (int i = 0; i < 120; i++) {
            pairs[i] = i % 2 == 0 ? 56319 : 57343;
        }
        check.reads(By.SIXTEENS, pairs, Check.repeated(1114111, 60));
    }

    private static void sixteensNotWellFormed() {
        promise(5, "Likewise by sixteens.");
        check.refuses(By.SIXTEENS, -1, 56320);
        check.refuses(By.SIXTEENS, -1, 65536, 65);
        check.refuses(By.SIXTEENS, -1, LEAST);
        check.refuses(By.SIXTEENS, -1, GREATEST);
        check.refuses(By.SIXTEENS, -2, 55296);
        check.refuses(By.SIXTEENS, -2, 55296, 55296, 56320);
        check.refuses(By.SIXTEENS, -3, 55296, 56320, 56320);
        check.refuses(By.SIXTEENS, -1, Check.repeated(56320, 120));
        check.refuses(By.SIXTEENS, -120, Check.joined(Check.repeated(65, 119), 57343));
        check.refuses(By.SIXTEENS, -121, Check.joined(Check.repeated(65, 119), 55296));

        ScalarScribe full = Check.fed(Check.repeated(65535, 120));
        full.fromSixteens();
        full.erase();
        Check.feedAll(full, 66, 56320);
        check.due("refused", full.fromSixteens(), -2);
        check.dueRow("a full list stays whole", Check.listOf(full), Check.repeated(65535, 120));
    }

    private static void lettersBecomeTheList() {
        promise(6, "Reads the input by letters: it becomes the list.");
        letters("");
        letters("a", 128);
        check.reads(By.LETTERS, Check.repeated('A', 120), Check.repeated(128, 120));
        check.reads(By.LETTERS, Check.joined(Check.repeated(127, 119), '-'),
                Check.repeated(127, 119));
    }

    private static void lettersLastHyphen() {
        promise(6, "The last hyphen that is not the first unit ends the units that are told as they"
                + " are");
        letters("--", '-');
        letters("---", '-', '-');
        letters("-a-", '-', 'a');
        letters("--a", 128, '-');
        letters("a-", 'a');
        letters("a--", 'a', '-');
        letters("a-b-a", 128, 'a', '-', 'b');
        check.reads(By.LETTERS, Check.repeated('-', 120), Check.repeated('-', 119));
    }

    private static void lettersNoHyphen() {
        promise(6, "if there is none, all are digits.");
        letters("");
        letters("aa", 128, 128);
        lettersRefused(-1, "-");
        lettersRefused(-1, "-a");
        lettersRefused(-1, "-aaa");
        lettersRefused(-1, "!");
    }

    private static void lettersHowManyOrTheListStays() {
        promise(6, "Answers how many scalars; otherwise, and the list stays, the first of these"
                + " that comes, going along");
        letters("");
        letters("x-aa", 128, 128, 'x');
        // Two faults, and the one that stands before the other is told.
        lettersRefused(-3, 128, '-', '!');
        lettersRefused(-3, Check.joined(Check.row(-1, '-'), Check.units("bb000000")));
        lettersRefused(-1, "!en32g");
        lettersRefused(-1, "a!en32g");
        lettersRefused(-1, "bb00!000");
        lettersRefused(-2, "bb000000!");
        lettersRefused(-2, "9016146o!");
        lettersRefused(-4, "en32g!");
        lettersRefused(-4, "8016146o9");
        lettersRefused(-4, "dn32gba!");

        ScalarScribe full = Check.fed(Check.repeated('a', 120));
        full.fromLetters();
        for (String refused : new String[] {"x-a!", "x-bb000000", "\u0080-", "x-99999a"}) {
            full.erase();
            Check.feedAll(full, Check.units(refused));
            check.due("refused, " + refused, full.fromLetters() < 0, true);
            check.due("a full list stays, " + refused, full.count(), 120);
            check.due("its first, " + refused, full.point(0), 128);
            check.due("its last, " + refused, full.point(119), 128);
        }
    }

    private static void lettersPlainUnitTooSmallOrTooLarge() {
        promise(6, "-3 a unit before that hyphen that is not 0 .. 127");
        letters("\0-", 0);
        letters("\u007f-", 127);
        lettersRefused(-3, -1, '-');
        lettersRefused(-3, 128, '-');
        lettersRefused(-3, LEAST, '-');
        lettersRefused(-3, GREATEST, '-');
        lettersRefused(-3, '-', 128, '-');
        lettersRefused(-3, Check.joined(Check.repeated('x', 118), 128, '-'));
        // Behind the hyphen, or without one, it is no digit.
        lettersRefused(-1, 'x', '-', 128);
        lettersRefused(-1, 'x', '-', -1);
        lettersRefused(-1, 128);
        lettersRefused(-1, '-', 128);
    }

    private static void lettersNoDigit() {
        promise(6, "of each number, -1 a unit that is no digit");
        for (int unit : new int[] {-1, 0, 47, 58, 64, 91, 96, 123, 127, 128, LEAST, GREATEST}) {
            lettersRefused(-1, unit);
            lettersRefused(-1, 'b', unit);
            lettersRefused(-1, 'a', unit, 'a');
        }
        lettersRefused(-1, Check.joined(Check.repeated('a', 119), '!'));
    }

    private static void lettersNoneAnyMore() {
        promise(6, "or none any more before its last one");
        lettersRefused(-1, "b");
        lettersRefused(-1, "bb");
        lettersRefused(-1, "bb0");
        lettersRefused(-1, "a0");
        lettersRefused(-1, "x-b");
        lettersRefused(-1, Check.joined(Check.repeated('a', 119), '0'));
        letters("bba", 164);
        letters("x-ba", 'x', 128);
    }

    private static void lettersOverflowOfANumber() {
        promise(6, "-2 an overflow");
        lettersRefused(-1, "bb00000");
        lettersRefused(-2, "bb000000");
        lettersRefused(-4, "x-w416146o");
        lettersRefused(-2, "x-x416146o");
        lettersRefused(-2, Check.repeated('9', 120));
    }

    private static void lettersOverflowOfWhatItGives() {
        promise(6, "then, of what it gives, -2 an overflow");
        lettersRefused(-4, "8016146o");
        lettersRefused(-2, "9016146o");
        lettersRefused(-4, "a06749585s");
        lettersRefused(-2, "a16749585s");
    }

    private static void lettersNoScalar() {
        promise(6, "-4 a value V that is no scalar.");
        letters("dn32g", 1114111);
        lettersRefused(-4, "en32g");
        letters("hb9b", 55295);
        lettersRefused(-4, "ib9b");
        lettersRefused(-4, "zy0c");
        letters("0y0c", 57344);
        // A second number, too: behind 1114111 there is none.
        letters("dn32ga", 1114111, 1114111);
        lettersRefused(-4, "dn32gba");
    }

    private static void mendEightsOrSixteens() {
        promise(7, "Reads the input by eights, or, if not, by sixteens, and mends");
        check.mends(true, 0, Check.row(194, 128), 128);
        check.mends(false, 0, Check.row(194, 128), 194, 128);
        check.mends(true, 2, Check.row(55296, 56320), 65533, 65533);
        check.mends(false, 0, Check.row(55296, 56320), 65536);
    }

    private static void mendLongestScalar() {
        promise(7, "as long as there are units left, the longest beginning of them that is a scalar"
                + " is read");
        check.mends(true, 0, Check.row());
        check.mends(false, 0, Check.row());
        check.mends(true, 0, Check.row(0, 194, 128, 224, 160, 128, 244, 143, 191, 191),
                0, 128, 2048, 1114111);
        check.mends(false, 0, Check.row(0, 55295, 57344, 65535, 55296, 56320, 56319, 57343),
                0, 55295, 57344, 65535, 65536, 1114111);
        check.mends(true, 0, Check.repeated(127, 120), Check.repeated(127, 120));
        check.mends(false, 0, Check.repeated(65535, 120), Check.repeated(65535, 120));
    }

    private static void mendLongestGoodBeginning() {
        promise(7, "if there is none, 65533 is put into the list, for the longest beginning of them"
                + " that is good");
        check.mends(true, 1, Check.row(194), 65533);
        check.mends(true, 1, Check.row(224, 160), 65533);
        check.mends(true, 1, Check.row(244, 143, 191), 65533);
        check.mends(true, 1, Check.row(244, 143, 191, 65), 65533, 65);
        check.mends(true, 1, Check.row(244, 143, 191, 194, 128), 65533, 128);
        check.mends(true, 2, Check.row(224, 160, 224), 65533, 65533);
        check.mends(true, 40, threes(), Check.repeated(65533, 40));
        check.mends(false, 1, Check.row(56319), 65533);
        check.mends(false, 1, Check.row(55296, 65), 65533, 65);
        check.mends(false, 1, Check.row(55296, 55296, 56320), 65533, 65536);
        check.mends(false, 120, Check.repeated(55296, 120), Check.repeated(65533, 120));
    }

    /** 40 times a scalar of four units without its last one. */
    private static int[] threes() {
        int[] units = new int[120];
        for (int i = 0; i < 120; i++) {
            units[i] = new int[] {240, 144, 128}[i % 3];
        }
        return units;
    }

    private static void mendOneUnit() {
        promise(7, "or for one unit, if not even that is.");
        check.mends(true, 1, Check.row(128), 65533);
        check.mends(true, 2, Check.row(192, 128), 65533, 65533);
        check.mends(true, 3, Check.row(224, 159, 191), 65533, 65533, 65533);
        check.mends(true, 3, Check.row(237, 160, 128), 65533, 65533, 65533);
        check.mends(true, 4, Check.row(240, 143, 191, 191), 65533, 65533, 65533, 65533);
        check.mends(true, 4, Check.row(244, 144, 128, 128), 65533, 65533, 65533, 65533);
        check.mends(true, 5, Check.row(245, 255, 256, -1, LEAST, 65),
                65533, 65533, 65533, 65533, 65533, 65);
        check.mends(true, 120, Check.repeated(128, 120), Check.repeated(65533, 120));
        check.mends(false, 2, Check.row(56320, 57343), 65533, 65533);
        check.mends(false, 4, Check.row(65536, -1, LEAST, GREATEST, 65),
                65533, 65533, 65533, 65533, 65);
        check.mends(false, 120, Check.repeated(57343, 120), Check.repeated(65533, 120));
    }

    private static void mendHowMany() {
        promise(7, "Answers how many were put in so.");
        check.mends(true, 0, Check.row());
        // 65533 that stands in the input itself is not counted.
        check.mends(true, 0, Check.row(239, 191, 189), 65533);
        check.mends(true, 1, Check.row(239, 191, 189, 239, 191), 65533, 65533);
        check.mends(false, 0, Check.row(65533), 65533);
        check.mends(false, 1, Check.row(65533, 56320), 65533, 65533);
        check.mends(true, 120, Check.repeated(255, 120), Check.repeated(65533, 120));
    }

    private static void toEightsBecomesTheOutput() {
        promise(8, "Writes the list by eights: it becomes the output.");
        check.writes(By.EIGHTS, Check.row());
        check.writes(By.EIGHTS, Check.row(0), 0);
        check.writes(By.EIGHTS, Check.row(127, 223, 191, 239, 191, 191, 244, 143, 191, 191),
                127, 2047, 65535, 1114111);
        ScalarScribe x = check.pairs(100);
        check.due("400 units", x.toEights(), 400);
        x.erase();
        x.fromEights();
        check.due("the empty list in its place", x.toEights(), 0);
        check.due("nothing of the old one", x.out(0), -1);
    }

    private static void toEightsMoreThan400() {
        promise(8, "Answers how many units; NONE when there would be more than 400, and the output"
                + " stays.");
        check.due("120 scalars of three units", threeEach().toEights(), 360);
        check.due("100 scalars of four units", check.pairs(100).toEights(), 400);
        check.due("the last unit is there", lastOut(check.pairs(100)), 128);

        ScalarScribe x = withOnePlain(100);
        check.due("99 of four and one", x.toEights(), 397);
        x.feed('a');
        check.due("one more", x.fromLetters(), 101);
        check.due("401 units", x.toEights(), -1);
        check.due("the output stays", x.length(), 397);
        check.dueRow("its beginning stays", Check.outputOf(x, 0, 6), 240, 144, 128, 128, 'x', 240);
        check.due("its end stays", x.out(396), 128);
        check.due("the list stays", x.count(), 101);

        ScalarScribe none = check.pairs(101);
        check.due("404 units", none.toEights(), -1);
        check.due("the empty output stays", none.length(), 0);
        check.due("nor is there a unit", none.out(0), -1);
    }

    private static ScalarScribe threeEach() {
        return check.listed(Check.repeated(65535, 120));
    }

    private static int lastOut(ScalarScribe x) {
        return x.out(x.toEights() - 1);
    }

    /** So many scalars, all of them 65536 but the second one, which is x. */
    private static ScalarScribe withOnePlain(int scalars) {
        ScalarScribe x = check.listed(65536, 'x');
        x.toLetters();
        x.turn();
        x.feed('b');
        Check.feedAll(x, Check.repeated('a', scalars - 3));
        check.due("listed", x.fromLetters(), scalars);
        return x;
    }

    private static void toSixteensMost() {
        promise(9, "Likewise by sixteens.");
        check.writes(By.SIXTEENS, Check.row());
        check.writes(By.SIXTEENS, Check.row(0), 0);
        check.writes(By.SIXTEENS, Check.row(65535, 55296, 56320, 56319, 57343),
                65535, 65536, 1114111);
        check.due("120 scalars of one unit", threeEach().toSixteens(), 120);
        // A list has at most 120 scalars of two units each: none would be more than 400.
        ScalarScribe x = check.pairs(117);
        check.due("117 scalars of two units", x.toSixteens(), 234);
        check.dueRow("the last two", Check.outputOf(x, 232, 235), 55296, 56320, -1);
    }

    private static void toLettersMoreThan400() {
        promise(10, "Likewise by letters.");
        check.writes(By.LETTERS, Check.row());
        check.writes(By.LETTERS, Check.units("x-"), 'x');
        check.due("120 plain ones", check.listed(Check.repeated('x', 120)).toLetters(), 121);
        ScalarScribe x = check.listed(wide());
        check.due("400 units", x.toLetters(), 400);
        check.due("length", x.length(), 400);
        int last = x.out(399);
        check.due("the last unit is a digit", last >= '0' && last <= 'z', true);
        check.due("there is no further one", x.out(400), -1);

        check.list(x, Check.joined(Check.row('x'), wide()));
        check.due("401 units", x.toLetters(), -1);
        check.due("the output stays", x.length(), 400);
        check.due("its end stays", x.out(399), last);
        check.due("the list stays", x.count(), 117);

        ScalarScribe none = check.listed(Check.joined(Check.row('x'), wide()));
        check.due("401 units at first", none.toLetters(), -1);
        check.due("the empty output stays", none.length(), 0);
        check.due("nor is there a unit", none.out(0), -1);
    }

    /** 116 scalars that are 400 units by letters; with an x before them they are 401. */
    private static int[] wide() {
        int[] scalars = new int[116];
        for (int i = 0; i < scalars.length; i++) {
            scalars[i] = 55295 - 450 * (i * 49 % 120);
        }
        return scalars;
    }

    private static void turnBecomesTheInput() {
        promise(11, "The output becomes the input.");
        ScalarScribe x = check.listed(65536);
        x.toEights();
        x.erase();
        Check.feedAll(x, Check.repeated(255, 120));
        check.due("turned", x.turn(), 4);
        check.due("read", x.fromEights(), 1);
        check.due("the same", x.point(0), 65536);
        check.due("the output stays", x.length(), 4);
        check.due("there is room behind it", x.feed(65), true);
        check.due("the output does not grow", x.length(), 4);
        check.due("nothing of the old input", x.erase(), 5);
        check.due("the output is not erased", x.length(), 4);

        ScalarScribe none = Check.fed(65);
        check.due("the empty one", none.turn(), 0);
        check.due("no input then", none.erase(), 0);
    }

    private static void turnMoreThan120() {
        promise(11, "Answers how many units that is; NONE when there are more than 120, and the"
                + " input stays.");
        check.due("none", new ScalarScribe().turn(), 0);
        ScalarScribe most = check.listed(Check.repeated('x', 119));
        check.due("120 written", most.toLetters(), 120);
        check.due("120 units", most.turn(), 120);
        check.due("120 then", most.erase(), 120);

        ScalarScribe more = check.listed(Check.repeated('x', 120));
        check.due("121 written", more.toLetters(), 121);
        more.erase();
        Check.feedAll(more, 65, 66);
        check.due("121 units", more.turn(), -1);
        check.due("the input stays", more.fromEights(), 2);
        check.dueRow("unit for unit", Check.listOf(more), 65, 66);
        check.due("the output stays", more.length(), 121);

        ScalarScribe far = check.pairs(100);
        far.toEights();
        check.due("400 units", far.turn(), -1);
        check.due("103 stay", far.erase(), 103);
        check.due("400 units with no input", far.turn(), -1);
        check.due("none stays", far.erase(), 0);
    }

    private static void countLeastAndGreatest() {
        promise(12, "How many scalars the list has.");
        ScalarScribe x = new ScalarScribe();
        check.due("none", x.count(), 0);
        x.feed(65);
        check.due("none for what is only fed", x.count(), 0);
        x.fromEights();
        check.due("one", x.count(), 1);
        Check.feedAll(x, Check.repeated(65, 119));
        x.fromEights();
        check.due("120", x.count(), 120);
        x.erase();
        check.due("120 still", x.count(), 120);
        x.mend(true);
        check.due("none again", x.count(), 0);
        x.feed(56320);
        x.fromSixteens();
        check.due("none for what is refused", x.count(), 0);
        x.mend(false);
        check.due("one that is mended", x.count(), 1);
    }

    private static void pointOutside() {
        promise(13, "Scalar i (from 0) of the list; NONE when there is none.");
        ScalarScribe x = new ScalarScribe();
        check.due("of an empty list", x.point(0), -1);
        Check.feedAll(x, 65, 66);
        Check.feedAll(x, Check.repeated(67, 118));
        x.fromEights();
        check.due("the first", x.point(0), 65);
        check.due("the second", x.point(1), 66);
        check.due("the last of 120", x.point(119), 67);
        check.due("behind it", x.point(120), -1);
        check.due("before the first", x.point(-1), -1);
        check.due("the least", x.point(LEAST), -1);
        check.due("the greatest", x.point(GREATEST), -1);
        x.erase();
        Check.feedAll(x, 68, 69);
        x.fromEights();
        check.due("the last of two", x.point(1), 69);
        check.due("nothing of a longer list before", x.point(2), -1);
        check.due("nor at its end", x.point(119), -1);
    }

    private static void lengthLeastAndGreatest() {
        promise(14, "How many units the output has.");
        ScalarScribe x = check.listed(65);
        check.due("none for what is not written", x.length(), 0);
        x.toEights();
        check.due("one", x.length(), 1);
        x.erase();
        x.fromEights();
        check.due("one still", x.length(), 1);
        x.toEights();
        check.due("none again", x.length(), 0);
        ScalarScribe most = check.pairs(100);
        most.toEights();
        check.due("400", most.length(), 400);
        most.toSixteens();
        check.due("200", most.length(), 200);
    }

    private static void outOutside() {
        promise(15, "Unit i (from 0) of the output; NONE when there is none.");
        check.due("of an empty output", check.listed(65).out(0), -1);
        ScalarScribe x = check.pairs(100);
        x.toEights();
        check.due("the first", x.out(0), 240);
        check.due("the second", x.out(1), 144);
        check.due("the last of 400", x.out(399), 128);
        check.due("behind it", x.out(400), -1);
        check.due("before the first", x.out(-1), -1);
        check.due("the least", x.out(LEAST), -1);
        check.due("the greatest", x.out(GREATEST), -1);
        check.list(x, 65, 66);
        x.toEights();
        check.due("the last of two", x.out(1), 66);
        check.due("nothing of a longer output before", x.out(2), -1);
        check.due("nor at its end", x.out(399), -1);
    }

    private static void keepInPlaceOfTheOld() {
        promise(16, "Remembers the list, in place of what was remembered");
        ScalarScribe x = check.listed(Check.repeated(65, 120));
        x.keep();
        check.due("120 kept", x.compare(false), 0);
        check.list(x, Check.repeated(65, 119));
        check.due("a shorter one is not the same", x.compare(false), -1);
        check.due("what is kept stays", x.compare(true), -1);
        x.keep();
        check.due("119 in place of 120", x.compare(false), 0);
        check.list(x, Check.joined(Check.repeated(65, 119), 0));
        check.due("nothing is left of the 120th", x.compare(false), 1);
        check.list(x);
        check.due("the empty list", x.compare(false), -1);
        x.keep();
        check.due("the empty one kept", x.compare(false), 0);
        check.list(x, 0);
        check.due("in place of all before", x.compare(true), 1);
    }

    private static void keepTheEmptyOneAtFirst() {
        promise(16, "(the empty one at first).");
        check.due("as the empty list", new ScalarScribe().compare(false), 0);
        check.due("as the empty list, by sixteens", new ScalarScribe().compare(true), 0);
        check.due("before any other", check.listed(0).compare(false), 1);
        check.due("before any other, by sixteens", check.listed(0).compare(true), 1);
    }

    private static void compareSame() {
        promise(17, "-1, 0 or 1 when the list comes before the one that is remembered, is the same,"
                + " or comes behind it");
        check.compares(0, 0, Check.row(), Check.row());
        check.compares(-1, -1, Check.row(0), Check.row(1));
        check.compares(-1, -1, Check.row(0), Check.row(55295));
        check.compares(0, 0, Check.repeated(65535, 120), Check.repeated(65535, 120));
        check.compares(0, 0, Check.repeated(1114111, 60), Check.repeated(1114111, 60));
    }

    private static void compareFirstDifference() {
        promise(17, "by the first place where they differ, the lesser first");
        check.compares(-1, -1, Check.row(1, 9), Check.row(2, 0));
        check.compares(-1, -1, Check.row(1, 9, 9), Check.row(2));
        check.compares(-1, -1, Check.row(5, 1, 9), Check.row(5, 2, 0));
        int[] most = Check.repeated(65, 119);
        check.compares(-1, -1, Check.joined(most, 65), Check.joined(most, 66));
        check.compares(-1, -1, Check.joined(Check.row(64), most), Check.joined(most, 0));
    }

    private static void compareShorterFirst() {
        promise(17, "or the shorter one first");
        check.compares(-1, -1, Check.row(), Check.row(0));
        check.compares(-1, -1, Check.row(5), Check.row(5, 0));
        check.compares(-1, -1, Check.row(65536), Check.row(65536, 0));
        check.compares(-1, -1, Check.repeated(65, 119), Check.repeated(65, 120));
        check.compares(-1, -1, Check.row(), Check.repeated(0, 120));
    }

    private static void compareByScalars() {
        promise(17, "by scalars");
        for (int pair : new int[] {65536, 66560, 1114111}) {
            ScalarScribe x = check.listed(pair);
            x.keep();
            check.list(x, 65535);
            check.due("65535 with " + pair, x.compare(false), -1);
            check.list(x, 57344, 65535);
            check.due("57344 with " + pair, x.compare(false), -1);
        }
    }

    private static void compareBySixteens() {
        promise(17, "or, if sixteens, by the units that they are by sixteens.");
        // Two units begin with 55296 .. 56319: behind 55295, and before 57344.
        check.compares(-1, -1, Check.row(55295), Check.row(65536));
        check.compares(-1, 1, Check.row(57344), Check.row(65536));
        check.compares(-1, 1, Check.row(57344), Check.row(1114111));
        check.compares(-1, 1, Check.row(65535), Check.row(65536));
        check.compares(-1, 1, Check.row(65535), Check.row(1114111));
        check.compares(-1, -1, Check.row(57344), Check.row(65535));
        // The first units differ, or only the second ones do.
        check.compares(-1, -1, Check.row(66559), Check.row(66560));
        check.compares(-1, -1, Check.row(65537), Check.row(66560));
        check.compares(-1, -1, Check.row(65536), Check.row(66559));
        check.compares(-1, -1, Check.row(1114110), Check.row(1114111));
        check.compares(-1, 1, Check.row(5, 57344), Check.row(5, 65536, 7));
    }

    private static void atMost512Calls() {
        check.about("What it is", "An object is used for at most 512 calls after it has been made");
        ScalarScribe x = new ScalarScribe();
        for (int call = 1; call <= 508; call++) {
            boolean full = call > 120;
            check.due("call " + call, x.feed(65), !full);
        }
        check.due("call 509", x.fromEights(), 120);
        check.due("call 510", x.toEights(), 120);
        check.due("call 511", x.turn(), 120);
        check.due("call 512", x.erase(), 120);
    }
}
