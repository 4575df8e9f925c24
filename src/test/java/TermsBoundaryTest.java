/** Each sentence of the document's Terms, at the least and the greatest that it names. */
public final class TermsBoundaryTest {
    private static final Check check = new Check();
    private static final int GREATEST = Check.GREATEST;
    private static final int LEAST = Check.LEAST;
    private static final String OVERFLOW = "When, in reading, any of P, V, a weight, or the sum of"
            + " a number's digits up to some one would be above 2147483647, that is an OVERFLOW";

    public static void main(String[] args) {
        scalarsLeastAndGreatest();
        surrogatesAreNoScalars();
        highSurrogates();
        lowSurrogates();
        inputUpTo120();
        inputAnyInts();
        listUpTo120();
        listEmptyAtFirst();
        outputUpTo400();
        outputEmptyAtFirst();
        eightsOneUnitBelow128();
        eightsTwoUnitsBelow2048();
        eightsThreeUnitsBelow65536();
        eightsFourUnits();
        sixteensOneUnitBelow65536();
        sixteensTwoUnits();
        rowsOneBehindTheOther();
        wellFormed();
        goodBeginnings();
        lettersPlainBelow128();
        lettersHyphenIfAny();
        lettersDigits();
        lettersNumbers();
        thresholdIs36kLessBias();
        thresholdAtLeast1();
        thresholdAtMost26();
        numberIsTheSumOfItsDigits();
        lastDigitIsBelowItsThreshold();
        readingAtFirst();
        readingHowManyAlready();
        readingPlaceGoesRound();
        readingPlaceGrowsByOne();
        readingFirstNumberBy700();
        readingOtherNumbersBy2();
        readingGrownByHowManyThereAreNow();
        readingAbove455();
        readingRoundsAreCounted();
        readingBiasOfWhatIsLeft();
        writingGivesTheRowAgain();
        writingLesserFirst();
        writingSameValueByPlace();
        writingSmallLetters();
        writingEndsAsSoonAsItCan();
        overflowOfPlace();
        overflowOfValue();
        overflowOfSum();
        overflowOfWeight();
        check.dueAllQuoted("Terms");
        check.end();
    }

    private static void terms(String words) {
        check.about("Terms", words);
    }

    private static void letters(String text, int... scalars) {
        check.reads(By.LETTERS, Check.units(text), scalars);
    }

    private static void lettersBothWays(String text, int... scalars) {
        check.readsAndWrites(By.LETTERS, Check.units(text), scalars);
    }

    private static void lettersRefused(int answer, String text) {
        check.refuses(By.LETTERS, answer, Check.units(text));
    }

    private static void eights(int scalar, int... units) {
        check.readsAndWrites(By.EIGHTS, units, scalar);
    }

    private static void eightsRefused(int answer, int... units) {
        check.refuses(By.EIGHTS, answer, units);
    }

    private static void sixteens(int scalar, int... units) {
        check.readsAndWrites(By.SIXTEENS, units, scalar);
    }

    private static void sixteensRefused(int answer, int... units) {
        check.refuses(By.SIXTEENS, answer, units);
    }

    private static void scalarsLeastAndGreatest() {
        terms("SCALARS are the ints 0 .. 1114111");
        eights(0, 0);
        eights(1114111, 244, 143, 191, 191);
        eightsRefused(-1, -1);
        eightsRefused(-2, 244, 144, 128, 128);
        eightsRefused(-1, 245, 128, 128, 128);
        sixteens(0, 0);
        sixteens(1114111, 56319, 57343);
        sixteensRefused(-1, -1);
        sixteensRefused(-1, 1114112);
        lettersBothWays("\0-", 0);
        lettersBothWays("dn32g", 1114111);
        lettersRefused(-4, "en32g");
    }

    private static void surrogatesAreNoScalars() {
        terms("without 55296 .. 57343 (SURROGATES;");
        eights(55295, 237, 159, 191);
        eightsRefused(-2, 237, 160, 128);
        eightsRefused(-2, 237, 191, 191);
        eights(57344, 238, 128, 128);
        sixteens(55295, 55295);
        sixteensRefused(-2, 55296);
        sixteensRefused(-1, 57343);
        sixteens(57344, 57344);
        lettersBothWays("hb9b", 55295);
        lettersRefused(-4, "ib9b");
        lettersRefused(-4, "zy0c");
        lettersBothWays("0y0c", 57344);
    }

    private static void highSurrogates() {
        terms("55296 .. 56319 are HIGH");
        sixteensRefused(-2, 55295, 56320);
        sixteens(65536, 55296, 56320);
        sixteens(1113088, 56319, 56320);
        sixteensRefused(-1, 56320, 56320);
    }

    private static void lowSurrogates() {
        terms("56320 .. 57343 LOW)");
        sixteensRefused(-2, 55296, 56319);
        sixteens(65536, 55296, 56320);
        sixteens(66559, 55296, 57343);
        sixteensRefused(-2, 55296, 57344);
    }

    private static void inputUpTo120() {
        terms("THE INPUT is a row of up to 120 units");
        ScalarScribe x = Check.fed(Check.repeated(65, 119));
        check.due("the 120th", x.feed(66), true);
        check.due("the 121st", x.feed(67), false);
        check.due("all are there", x.fromEights(), 120);
        check.due("the last one", x.point(119), 66);
        check.due("no more", x.erase(), 120);
    }

    private static void inputAnyInts() {
        terms("any ints");
        ScalarScribe x = new ScalarScribe();
        check.due("the least", x.feed(LEAST), true);
        check.due("the greatest", x.feed(GREATEST), true);
        check.due("both are there", x.mend(false), 2);
        // Each of these would be a letter, a hyphen or a high one if only its lower bits were kept.
        for (int wrap : new int[] {128, 256, 65536, LEAST, -256, -65536}) {
            eightsRefused(-1, 65 + wrap);
            check.refuses(By.LETTERS, -3, 65 + wrap, 45);
            check.refuses(By.LETTERS, -1, 97, 97 + wrap);
            check.refuses(By.LETTERS, -1, 97, 45 + wrap, 97);
        }
        for (int wrap : new int[] {65536, LEAST, -65536}) {
            sixteensRefused(-1, 65 + wrap);
            sixteensRefused(-1, 55296 + wrap, 56320);
            sixteensRefused(-2, 55296, 56320 + wrap);
            eightsRefused(-2, 194, 128 + wrap);
        }
    }

    private static void listUpTo120() {
        terms("THE LIST is a row of up to 120 scalars");
        check.reads(By.EIGHTS, Check.repeated(127, 120), Check.repeated(127, 120));
        check.reads(By.SIXTEENS, Check.repeated(65535, 120), Check.repeated(65535, 120));
        check.reads(By.LETTERS, Check.repeated('a', 120), Check.repeated(128, 120));
        check.reads(By.LETTERS, Check.joined(Check.repeated('a', 119), '-'),
                Check.repeated('a', 119));
        check.mends(true, 120, Check.repeated(255, 120), Check.repeated(65533, 120));
        check.mends(false, 120, Check.repeated(56320, 120), Check.repeated(65533, 120));
    }

    private static void listEmptyAtFirst() {
        terms("THE LIST is a row of up to 120 scalars, empty at first.");
        ScalarScribe x = new ScalarScribe();
        check.due("count", x.count(), 0);
        check.due("point(0)", x.point(0), -1);
        for (By way : By.values()) {
            check.due("written " + way, way.to(x), 0);
        }
    }

    private static void outputUpTo400() {
        terms("THE OUTPUT is a row of up to 400 units");
        ScalarScribe x = check.pairs(100);
        check.due("400 units", x.toEights(), 400);
        check.due("length", x.length(), 400);
        check.dueRow("the last four", Check.outputOf(x, 396, 401), 240, 144, 128, 128, -1);
        x.feed('a');
        check.due("a scalar more", x.fromLetters(), 101);
        check.due("404 units", x.toEights(), -1);
        check.due("length then", x.length(), 400);
    }

    private static void outputEmptyAtFirst() {
        terms("THE OUTPUT is a row of up to 400 units, empty at first.");
        ScalarScribe x = Check.fedText("abc");
        check.due("read", x.fromEights(), 3);
        check.due("length", x.length(), 0);
        check.due("out(0)", x.out(0), -1);
        check.due("turned", x.turn(), 0);
    }

    private static void eightsOneUnitBelow128() {
        terms("BY EIGHTS a scalar v is 1 to 4 units 0 .. 255: v itself below 128");
        eights(0, 0);
        eights(127, 127);
        eights(128, 194, 128);
        eightsRefused(-1, 128);
        eightsRefused(-1, 192, 128);
        eightsRefused(-1, 193, 191);
        eightsRefused(-1, -1);
        eightsRefused(-1, 255);
        eightsRefused(-1, 256);
    }

    private static void eightsTwoUnitsBelow2048() {
        terms("else two, below 2048: 192 + v / 64, 128 + v % 64");
        eights(128, 194, 128);
        eights(191, 194, 191);
        eights(192, 195, 128);
        eights(2047, 223, 191);
        eights(2048, 224, 160, 128);
        eightsRefused(-2, 224, 128, 128);
        eightsRefused(-2, 224, 159, 191);
        eightsRefused(-2, 194, 127);
        eightsRefused(-2, 223, 192);
    }

    private static void eightsThreeUnitsBelow65536() {
        terms("else three, below 65536: 224 + v / 4096, 128 + v / 64 % 64, 128 + v % 64");
        eights(2048, 224, 160, 128);
        eights(4095, 224, 191, 191);
        eights(4096, 225, 128, 128);
        eights(4159, 225, 128, 191);
        eights(4160, 225, 129, 128);
        eights(53247, 236, 191, 191);
        eights(53248, 237, 128, 128);
        eightsRefused(-2, 237, 127, 128);
        eights(65535, 239, 191, 191);
        eights(65536, 240, 144, 128, 128);
        eightsRefused(-2, 240, 128, 128, 128);
        eightsRefused(-2, 240, 143, 191, 191);
        eightsRefused(-2, 225, 127, 128);
        eightsRefused(-2, 225, 192, 128);
        eightsRefused(-3, 239, 191, 127);
        eightsRefused(-3, 239, 191, 192);
    }

    private static void eightsFourUnits() {
        terms("else four: 240 + v / 262144, 128 + v / 4096 % 64, 128 + v / 64 % 64, 128 + v % 64.");
        eights(65536, 240, 144, 128, 128);
        eights(65599, 240, 144, 128, 191);
        eights(65600, 240, 144, 129, 128);
        eights(69631, 240, 144, 191, 191);
        eights(69632, 240, 145, 128, 128);
        eights(262143, 240, 191, 191, 191);
        eights(262144, 241, 128, 128, 128);
        eights(1048575, 243, 191, 191, 191);
        eights(1048576, 244, 128, 128, 128);
        eightsRefused(-2, 241, 127, 128, 128);
        eightsRefused(-2, 243, 192, 128, 128);
        eightsRefused(-3, 241, 128, 127, 128);
        eightsRefused(-3, 241, 128, 192, 128);
        eightsRefused(-4, 241, 128, 128, 127);
        eightsRefused(-4, 241, 128, 128, 192);
    }

    private static void sixteensOneUnitBelow65536() {
        terms("BY SIXTEENS it is v itself below 65536");
        sixteens(0, 0);
        sixteens(65535, 65535);
        sixteens(65536, 55296, 56320);
        sixteensRefused(-1, 65536);
        sixteensRefused(-1, -1);
    }

    private static void sixteensTwoUnits() {
        terms("else two units: 55296 + (v - 65536) / 1024, 56320 + v % 1024.");
        sixteens(65536, 55296, 56320);
        sixteens(66559, 55296, 57343);
        sixteens(66560, 55297, 56320);
        sixteens(1113087, 56318, 57343);
        sixteens(1113088, 56319, 56320);
        sixteens(1114111, 56319, 57343);
    }

    private static void rowsOneBehindTheOther() {
        terms("A row of scalars by eights, or by sixteens, is what they are, one behind the"
                + " other.");
        check.readsAndWrites(By.EIGHTS, Check.row());
        check.readsAndWrites(By.EIGHTS, Check.row(244, 143, 191, 191, 0, 223, 191, 239, 191, 191),
                1114111, 0, 2047, 65535);
        check.readsAndWrites(By.SIXTEENS, Check.row());
        check.readsAndWrites(By.SIXTEENS, Check.row(56319, 57343, 0, 55296, 56320, 65535),
                1114111, 0, 65536, 65535);
    }

    private static void wellFormed() {
        terms("A row of units is WELL FORMED so when some row of scalars is that.");
        check.reads(By.EIGHTS, Check.row());
        check.reads(By.SIXTEENS, Check.row());
        check.reads(By.EIGHTS, Check.row(240, 144, 128, 128), 65536);
        eightsRefused(-4, 240, 144, 128);
        eightsRefused(-5, 240, 144, 128, 128, 128);
        check.reads(By.SIXTEENS, Check.row(55296, 56320), 65536);
        sixteensRefused(-2, 55296);
        sixteensRefused(-3, 55296, 56320, 56320);
    }

    private static void goodBeginnings() {
        terms("A beginning of a row is GOOD when some well formed row begins with it.");
        // none but the empty one, which every row begins with
        eightsRefused(-1, 128, 65);
        sixteensRefused(-1, 56320, 65);
        // a part of a scalar
        eightsRefused(-2, 223, 65);
        eightsRefused(-3, 239, 191, 65);
        eightsRefused(-4, 244, 143, 191, 65);
        sixteensRefused(-2, 56319, 65);
        // the whole row, which is not well formed for all that
        eightsRefused(-2, 194);
        eightsRefused(-3, 224, 160);
        eightsRefused(-4, 244, 143, 191);
        sixteensRefused(-3, 65, 55296);
        eightsRefused(-121, Check.joined(Check.repeated(65, 117), 240, 144, 128));
        sixteensRefused(-121, Check.joined(Check.repeated(65, 119), 55296));
    }

    private static void lettersPlainBelow128() {
        terms("BY LETTERS a row of scalars is units 0 .. 127: first those scalars that are below"
                + " 128, in their order");
        lettersBothWays("\0\u007f-", 0, 127);
        lettersBothWays("\u007f\0-a", 128, 127, 0);
        lettersBothWays("a", 128);
        check.refuses(By.LETTERS, -3, 128, '-');
        check.refuses(By.LETTERS, -3, -1, '-');
        check.refuses(By.LETTERS, -1, 'x', '-', 128);
    }

    private static void lettersHyphenIfAny() {
        terms("then, if there were any, a hyphen (45)");
        lettersBothWays("");
        lettersBothWays("a", 128);
        lettersBothWays("x-", 'x');
        lettersBothWays("--", '-');
        lettersBothWays("x-a", 128, 'x');
        lettersRefused(-1, "-a");
    }

    private static void lettersDigits() {
        terms("then DIGITS: a .. z (97 .. 122, or A .. Z, 65 .. 90) for 0 .. 25, 0 .. 9 (48 .. 57)"
                + " for 26 .. 35.");
        // A first number's first digit is its last one only if it is 0, and counts itself else.
        letters("a", 128);
        letters("A", 128);
        for (int digit = 1; digit < 26; digit++) {
            check.reads(By.LETTERS, Check.row(97 + digit, 'a'), 128 + digit);
            check.reads(By.LETTERS, Check.row(65 + digit, 'A'), 128 + digit);
        }
        for (int digit = 26; digit < 36; digit++) {
            check.reads(By.LETTERS, Check.row(48 + digit - 26, 'a'), 128 + digit);
        }
        for (int unit : new int[] {47, 58, 64, 91, 96, 123, 0, 127, 128, -1, LEAST, GREATEST}) {
            check.refuses(By.LETTERS, -1, unit, 'a');
            check.refuses(By.LETTERS, -1, 'z', unit);
        }
    }

    private static void lettersNumbers() {
        terms("The digits tell NUMBERS, one for each other scalar.");
        lettersBothWays("x-", 'x');
        lettersBothWays("x-a", 128, 'x');
        lettersBothWays("aaa", 128, 128, 128);
        lettersBothWays(Check.textOf(Check.repeated('a', 120)), Check.repeated(128, 120));
        lettersRefused(-1, "aab0");
    }

    private static void thresholdIs36kLessBias() {
        terms("THE THRESHOLD of the k-th digit of a number (k from 1), by a BIAS, is 36 k - bias");
        // Behind the number 158900 the bias is 33: the first threshold is 3, its weight 36 - 3.
        lettersBothWays("9y3kc", 159028, 159029);
        lettersBothWays("9y3kda", 159030, 159028);
        lettersBothWays("9y3kdb", 159028, 159046);
        lettersRefused(-1, "9y3kd");
        // Behind 208600 it is 47: the second threshold is 25, the first one's weight is 35.
        lettersBothWays("9j4oby", 209149, 208728);
        lettersRefused(-1, "9j4obz");
    }

    private static void thresholdAtLeast1() {
        terms("but at least 1");
        // By the bias 72, the first two thresholds would be -36 and 0.
        lettersBothWays("a", 128);
        lettersRefused(-1, "b");
        lettersBothWays("ba", 129);
        lettersRefused(-1, "bb");
        lettersBothWays("bba", 164);
    }

    private static void thresholdAtMost26() {
        terms("and at most 26.");
        // By the bias 72, the third threshold would be 36.
        lettersBothWays("bbz", 30789);
        lettersRefused(-1, "bb0");
        lettersBothWays("bb0a", 32014);
        lettersBothWays("bb0b", 44264);
        // Behind the number 0 the bias is 0, and the first threshold would be 36.
        lettersBothWays("az", 141, 128);
        lettersRefused(-1, "a0");
        lettersBothWays("a0a", 128, 141);
        lettersBothWays("a0b", 128, 146);
        // Behind 6299 the bias is 10: it is 26; behind 208599, 46: the second one is 26.
        lettersBothWays("8efz", 6440, 6427);
        lettersBothWays("8j4obz", 208727, 209165);
    }

    private static void numberIsTheSumOfItsDigits() {
        terms("A number is the sum of its digits, each times its weight: the first one's is 1,"
                + " each further one's is that of the one before times (36 less the threshold of"
                + " that one before).");
        lettersBothWays("a", 128);
        lettersBothWays("9a", 128 + 35);
        lettersBothWays("99a", 128 + 35 + 35 * 35);
        lettersBothWays("999a", 128 + 35 + 35 * 35 + 35 * 1225);
        lettersBothWays("bb0b", 128 + 1 + 35 + 26 * 1225 + 12250);
        lettersBothWays("a999a", 2071, 128);
    }

    private static void lastDigitIsBelowItsThreshold() {
        terms("A digit below its threshold is the number's last one.");
        // Behind the number 30661 the bias is 24 and the first threshold 12.
        lettersBothWays("bbza", 30789, 30789);
        lettersBothWays("bbzl", 30795, 30789);
        lettersRefused(-1, "bbzm");
        lettersBothWays("bbzma", 30789, 30795);
    }

    private static void readingAtFirst() {
        terms("READING the numbers: there are a value V, 128 at first, a place P, 0 at first, and a"
                + " bias, 72 at first");
        lettersBothWays("a", 128);
        lettersBothWays("x-a", 128, 'x');
        lettersBothWays("xy-a", 128, 'x', 'y');
        lettersBothWays("bbz", 30789);
    }

    private static void readingHowManyAlready() {
        terms("M is how many scalars the row has already.");
        lettersBothWays("ba", 129);
        lettersBothWays("x-ba", 'x', 128);
        lettersBothWays("x-ca", 129, 'x');
        lettersBothWays("xy-ca", 'x', 'y', 128);
        int[] plain = Check.repeated('x', 116);
        check.reads(By.LETTERS, Check.joined(plain, '-', 'l', 'd', 'a'), Check.joined(plain, 128));
        check.reads(By.LETTERS, Check.joined(plain, '-', 'm', 'd', 'a'),
                Check.joined(Check.row(129), plain));
    }

    private static void readingPlaceGoesRound() {
        terms("For each number d: P grows by d; V grows by P / (M + 1); P becomes P % (M + 1); the"
                + " scalar V is put in at place P");
        lettersBothWays("x-a", 128, 'x');
        lettersBothWays("x-ba", 'x', 128);
        lettersBothWays("x-ca", 129, 'x');
        lettersBothWays("x-da", 'x', 129);
        lettersBothWays("x-ea", 130, 'x');
    }

    private static void readingPlaceGrowsByOne() {
        terms("P grows by 1");
        lettersBothWays("x-aa", 128, 128, 'x');
        lettersBothWays("x-aab", 128, 128, 'x', 128);
        lettersBothWays("x-aac", 129, 128, 128, 'x');
        // Behind the last place there is one more then.
        lettersBothWays("x-baa", 'x', 128, 128);
        lettersBothWays("x-bab", 129, 'x', 128);
    }

    private static void readingFirstNumberBy700() {
        terms("and the bias becomes: with e = d / 700 for the first number");
        // 6299 / 700 is 8 still: bias 10 and threshold 26; 6300 / 700 is 9: 11 and 25.
        lettersBothWays("8efz", 6440, 6427);
        lettersRefused(-1, "9efz");
        lettersBothWays("9efy", 6428, 6440);
        lettersBothWays("9efza", 6441, 6428);
    }

    private static void readingOtherNumbersBy2() {
        terms("d / 2 for all others");
        // The second number: 23 / 2 is 11, grown 16, bias 10; 24 / 2 is 12, grown 18, bias 11.
        lettersBothWays("axz", 140, 128, 148);
        lettersRefused(-1, "ayz");
        lettersBothWays("ayy", 128, 140, 148);
        // The third: 25 / 2 is 12, grown 16, bias 10; 26 / 2 is 13, grown 17, bias 11.
        lettersBothWays("aazz", 137, 128, 143, 128);
        lettersRefused(-1, "aa0az");
        lettersBothWays("aa0ay", 128, 137, 143, 128);
    }

    private static void readingGrownByHowManyThereAreNow() {
        terms("and e grown by e / (M + 1), where M + 1 is how many scalars there are now");
        // 11899 / 700 is 16: with 17 scalars it grows by 0 and the bias is 10, with 16 by 1 and 11.
        check.readsAndWrites(By.LETTERS, Check.units("xxxxxxxxxxxxxxxx-8yjz"),
                Check.units("xxxxxx\u033dxxxxxxxxxx\u033b"));
        lettersRefused(-1, "xxxxxxxxxxxxxxx-8yjz");
        check.readsAndWrites(By.LETTERS, Check.units("xxxxxxxxxxxxxxx-8yjy"),
                Check.units("xx\u0369xxxxxxxxx\u0367xxxx"));
    }

    private static void readingAbove455() {
        terms("as long as e is above 455");
        // First numbers: 364 grown by a quarter is 455, bias 33; 365 is 456, bias 45.
        lettersBothWays("xyz-8t2sc", 'x', 64003, 'y', 'z', 64002);
        lettersRefused(-1, "xyz-9t2sc");
        lettersBothWays("xyz-9t2sa", 64003, 64003, 'x', 'y', 'z');
        // Second numbers, in the same way.
        lettersBothWays("xy-a34ec", 311, 128, 'x', 310, 'y');
        lettersRefused(-1, "xy-a44ec");
        lettersBothWays("xy-a44ea", 128, 'x', 'y', 310, 310);
    }

    private static void readingRoundsAreCounted() {
        terms("e becomes e / 35, and it is counted in c");
        // e is 15958 and leaves 455 behind one round, bias 69; 15960 needs two, bias 81.
        lettersBothWays("a393sbc", 10792, 10768, 128);
        lettersRefused(-1, "a493sbc");
        lettersBothWays("a493sba", 10769, 128, 10768);
        // 558598 needs two, bias 105; 558600 needs three, bias 117.
        lettersBothWays("a31955ebbc", 373357, 372528, 128);
        lettersRefused(-1, "a41955ebbc");
        lettersBothWays("a41955ebba", 128, 372528, 372540);
        // 19550999 needs three, bias 141; 19551000 needs four, bias 153.
        String plain = Check.textOf(Check.repeated('x', 48));
        check.due("three rounds", Check.fedText(plain + "-a9046449abbbc").fromLetters(), 51);
        lettersRefused(-1, plain + "-a0146449abbbc");
        check.due("four rounds", Check.fedText(plain + "-a0146449abbba").fromLetters(), 51);
    }

    private static void readingBiasOfWhatIsLeft() {
        terms("the bias is 36 c + 36 e / (e + 38).");
        // The least: e is 0 and so is the bias. 36 * 16 / 54 is 10, 36 * 18 / 56 is 11.
        lettersBothWays("az", 141, 128);
        lettersBothWays("8efz", 6440, 6427);
        lettersRefused(-1, "9efz");
        // The greatest: 36 * 455 / 493 is 33, and with a round before it 69.
        lettersBothWays("xyz-8t2sc", 'x', 64003, 'y', 'z', 64002);
        lettersRefused(-1, "xyz-8t2sd");
        lettersBothWays("a393sbc", 10792, 10768, 128);
        lettersRefused(-1, "a393sbd");
    }

    private static void writingGivesTheRowAgain() {
        terms("WRITING is the only way to tell the row so that reading gives it again");
        lettersBothWays("");
        lettersBothWays("dn32ga", 1114111, 1114111);
        lettersBothWays(Check.textOf(Check.repeated('a', 120)), Check.repeated(128, 120));
        ScalarScribe x = check.listed(1114111, 45, 128, 0, 57344, 127, 65536, 55295, 128);
        x.keep();
        int units = x.toLetters();
        check.due("turned", x.turn(), units);
        check.due("read again", x.fromLetters(), 9);
        check.due("the same", x.compare(false), 0);
    }

    private static void writingLesserFirst() {
        terms("other scalars are told by their values, the lesser first");
        lettersBothWays("ac", 128, 129);
        lettersBothWays("ab", 129, 128);
        lettersBothWays("a97093t", 1114111, 128);
    }

    private static void writingSameValueByPlace() {
        terms("of the same value by place");
        lettersBothWays("aa", 128, 128);
        lettersBothWays("xy-bab", 'x', 128, 'y', 128);
        lettersBothWays("dn32ga", 1114111, 1114111);
    }

    private static void writingSmallLetters() {
        terms("digits are small letters");
        // A second number of one digit: the least is a, the greatest is z.
        for (int digit = 0; digit < 26; digit++) {
            int value = 128 + (1 + digit) / 2;
            int[] scalars = digit % 2 == 0 ? Check.row(128, value) : Check.row(value, 128);
            check.writes(By.LETTERS, Check.row('a', 'a' + digit), scalars);
        }
        ScalarScribe x = Check.fedText("XY-BAB");
        check.due("large ones read", x.fromLetters(), 4);
        check.due("written", x.toLetters(), 6);
        check.dueRow("small, but for what is told as it is",
                Check.outputOf(x), Check.units("XY-bab"));
    }

    private static void writingEndsAsSoonAsItCan() {
        terms("each number ends as soon as it can.");
        // First numbers 0, 1, 35 and 36; second numbers 25 and 26.
        check.writes(By.LETTERS, Check.units("a"), 128);
        check.writes(By.LETTERS, Check.units("ba"), 129);
        check.writes(By.LETTERS, Check.units("9a"), 163);
        check.writes(By.LETTERS, Check.units("bba"), 164);
        check.writes(By.LETTERS, Check.units("az"), 141, 128);
        check.writes(By.LETTERS, Check.units("a0a"), 128, 141);
    }

    private static void overflowOfPlace() {
        terms(OVERFLOW);
        // Behind "a", P is 1: 2147483646 makes it 2147483647, one more is too much.
        lettersRefused(-4, "a06749585s");
        lettersRefused(-2, "a16749585s");
    }

    private static void overflowOfValue() {
        terms(OVERFLOW);
        // V is 128: 2147483519 makes it 2147483647, one more is too much, whatever P is.
        lettersRefused(-4, "8016146o");
        lettersRefused(-2, "9016146o");
    }

    private static void overflowOfSum() {
        terms(OVERFLOW);
        // With one scalar before it, 2147483647 is a number still, and V but half of it.
        lettersRefused(-4, "x-w416146o");
        lettersRefused(-2, "x-x416146o");
        // The eighth digit that is no last one makes the sum too great, before a ninth is missing.
        lettersRefused(-1, "bb00000");
        lettersRefused(-2, "bb000000");
        // However far it would go beyond, it never comes round to a number again.
        lettersRefused(-2, Check.textOf(Check.repeated('9', 120)));
        lettersRefused(-2, Check.textOf(Check.joined(Check.repeated('9', 119), 'a')));
    }

    private static void overflowOfWeight() {
        terms("the weight of the next digit is reckoned as soon as a digit is not the last one.");
        // No weight can be too great before the sum is: that asks for seven thresholds of 1, so for
        // a bias of 251, and no number leaves one above 163. What can be seen is that an overflow
        // comes before the next unit is looked at, and that no lesser weight is refused.
        lettersRefused(-2, "bb000000!");
        lettersRefused(-1, "bb00000!");
        lettersRefused(-1, "bb00000");
    }
}
