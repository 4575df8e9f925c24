import java.util.Arrays;

/** Each promise by examples worked out by hand: ordinary inputs, the named edges, wrong inputs. */
public final class PromiseTest {
    private static final Check check = new Check();
    private static final int GREATEST = Integer.MAX_VALUE;
    private static final int LEAST = Integer.MIN_VALUE;

    public static void main(String[] args) {
        promise1NewObject();
        promise2Feed();
        promise3Erase();
        promise4FromEights();
        promise4FromEightsLongestGoodBeginning();
        promise5FromSixteens();
        promise6FromLetters();
        promise6FromLettersFaults();
        promise6FromLettersOverflows();
        promise7MendByEights();
        promise7MendBySixteens();
        promise8ToEights();
        promise9ToSixteens();
        promise10ToLetters();
        promise11Turn();
        promise12And13CountAndPoint();
        promise14And15LengthAndOut();
        promise16Keep();
        promise17Compare();
        check.end();
    }

    private static void promise1NewObject() {
        ScalarScribe x = new ScalarScribe();
        check.due("1: NONE", ScalarScribe.NONE, -1);
        check.due("1: count", x.count(), 0);
        check.due("1: length", x.length(), 0);
        check.due("1: point(0)", x.point(0), -1);
        check.due("1: out(0)", x.out(0), -1);
        check.due("1: compare(true)", x.compare(true), 0);
        check.due("1: compare(false)", x.compare(false), 0);
        check.due("1: turn", x.turn(), 0);
        check.due("1: fromEights", x.fromEights(), 0);
        check.due("1: fromSixteens", x.fromSixteens(), 0);
        check.due("1: fromLetters", x.fromLetters(), 0);
        check.due("1: mend(true)", x.mend(true), 0);
        check.due("1: toEights", x.toEights(), 0);
        check.due("1: toSixteens", x.toSixteens(), 0);
        check.due("1: toLetters", x.toLetters(), 0);
        check.due("1: erase", x.erase(), 0);

        ScalarScribe used = Check.fedText("abc");
        used.fromEights();
        used.toEights();
        used.keep();
        ScalarScribe other = new ScalarScribe();
        check.due("1: erase of another", other.erase(), 0);
        check.due("1: count of another", other.count(), 0);
        check.due("1: length of another", other.length(), 0);
        check.due("1: compare of another", other.compare(false), 0);
    }

    private static void promise2Feed() {
        ScalarScribe x = new ScalarScribe();
        for (int i = 0; i < 120; i++) {
            check.due("2: feed " + i, x.feed(i), true);
        }
        check.due("2: feed the 121st", x.feed(120), false);
        check.due("2: feed the 121st again", x.feed(LEAST), false);
        check.due("2: read all", x.fromEights(), 120);
        check.due("2: first", x.point(0), 0);
        check.due("2: last", x.point(119), 119);
        check.due("2: had", x.erase(), 120);
        check.due("2: feed then", x.feed(GREATEST), true);
        check.due("2: feed any int", x.feed(LEAST), true);
        check.due("2: had then", x.erase(), 2);
    }

    private static void promise3Erase() {
        ScalarScribe x = Check.fedText("abc");
        x.fromEights();
        x.toEights();
        check.due("3: erase", x.erase(), 3);
        check.due("3: erase again", x.erase(), 0);
        check.due("3: the list stays", x.count(), 3);
        check.due("3: the output stays", x.length(), 3);
        Check.feedAll(x, 'd');
        check.due("3: fed anew", x.fromEights(), 1);
        check.dueRow("3: only what is new", Check.listOf(x), 'd');
    }

    private static void promise4FromEights() {
        eightsRead("empty");
        eightsRead("one unit", 0, 0);
        eightsRead("one unit, the greatest", 127, 127);
        eightsRead("two, the least", 128, 194, 128);
        eightsRead("two, the greatest", 2047, 223, 191);
        eightsRead("three, the least", 2048, 224, 160, 128);
        eightsRead("three, before the surrogates", 55295, 237, 159, 191);
        eightsRead("three, behind the surrogates", 57344, 238, 128, 128);
        eightsRead("three, the greatest", 65535, 239, 191, 191);
        eightsRead("four, the least", 65536, 240, 144, 128, 128);
        eightsRead("four, the greatest", 1114111, 244, 143, 191, 191);

        ScalarScribe x = Check.fed(97, 195, 188, 226, 130, 172, 240, 159, 152, 128, 122);
        check.due("4: all sizes", x.fromEights(), 5);
        check.dueRow("4: all sizes", Check.listOf(x), 97, 252, 8364, 128512, 122);
        check.due("4: the input stays", x.erase(), 11);
        check.due("4: the empty row takes its place", x.fromEights(), 0);
        check.due("4: the list is empty", x.count(), 0);

        ScalarScribe full = Check.fed(Check.repeated(65, 120));
        check.due("4: 120 scalars", full.fromEights(), 120);
        check.due("4: the 120th", full.point(119), 65);
    }

    private static void eightsRead(String what, int... scalarAndUnits) {
        int[] units = scalarAndUnits.length == 0
                ? scalarAndUnits : Arrays.copyOfRange(scalarAndUnits, 1, scalarAndUnits.length);
        ScalarScribe x = Check.fed(units);
        int wanted = units.length == 0 ? 0 : 1;
        check.due("4: " + what, x.fromEights(), wanted);
        check.due("4: count, " + what, x.count(), wanted);
        check.due("4: point, " + what, x.point(0), wanted == 0 ? -1 : scalarAndUnits[0]);
    }

    private static void promise4FromEightsLongestGoodBeginning() {
        eightsRefused(0, 128);
        eightsRefused(0, 191);
        eightsRefused(0, 192, 128);
        eightsRefused(0, 193, 191);
        eightsRefused(0, 245, 128, 128, 128);
        eightsRefused(0, 255);
        eightsRefused(0, 256);
        eightsRefused(0, -1);
        eightsRefused(0, GREATEST);
        eightsRefused(0, LEAST);
        eightsRefused(1, 194);
        eightsRefused(1, 194, 127);
        eightsRefused(1, 194, 192);
        eightsRefused(1, 224, 159, 128);
        eightsRefused(2, 224, 160);
        eightsRefused(2, 224, 160, 65);
        eightsRefused(1, 237, 160, 128);
        eightsRefused(1, 237, 191, 191);
        eightsRefused(2, 237, 159, 192);
        eightsRefused(1, 240, 143, 191, 191);
        eightsRefused(2, 240, 144);
        eightsRefused(3, 240, 144, 128);
        eightsRefused(3, 240, 144, 128, 127);
        eightsRefused(1, 244, 144, 128, 128);
        eightsRefused(3, 244, 143, 191, 384);
        eightsRefused(3, 65, 66, 67, 128);
        eightsRefused(5, 65, 195, 188, 226, 130);
        int[] cutOff = Check.repeated(65, 120);
        cutOff[119] = 226;
        eightsRefused(120, cutOff);
    }

    private static void eightsRefused(int good, int... units) {
        ScalarScribe x = Check.fed(7);
        x.fromEights();
        x.erase();
        Check.feedAll(x, units);
        check.due("4: refused " + Arrays.toString(units), x.fromEights(), -1 - good);
        check.dueRow("4: the list stays", Check.listOf(x), 7);
        check.due("4: the input stays", x.erase(), units.length);
    }

    private static void promise5FromSixteens() {
        ScalarScribe x = Check.fed(0, 55295, 57344, 65535, 55296, 56320, 56319, 57343, 97);
        check.due("5: well formed", x.fromSixteens(), 7);
        check.dueRow("5: well formed", Check.listOf(x), 0, 55295, 57344, 65535, 65536, 1114111, 97);
        check.due("5: the input stays", x.erase(), 9);
        check.due("5: empty", x.fromSixteens(), 0);
        check.due("5: the list is empty", x.count(), 0);

        sixteensRefused(1, 55296);
        sixteensRefused(1, 56319);
        sixteensRefused(1, 55296, 56319);
        sixteensRefused(1, 55296, 57344);
        sixteensRefused(1, 55296, 55296, 56320);
        sixteensRefused(0, 56320);
        sixteensRefused(0, 57343, 55296);
        sixteensRefused(0, 65536);
        sixteensRefused(0, 1114111);
        sixteensRefused(0, -1);
        sixteensRefused(0, LEAST);
        sixteensRefused(0, GREATEST);
        sixteensRefused(3, 65, 55357, 56832, 56832);
        sixteensRefused(4, 65, 55357, 56832, 55357, 65);
        sixteensRefused(1, 55296, -1);
    }

    private static void sixteensRefused(int good, int... units) {
        ScalarScribe x = Check.fed(7);
        x.fromSixteens();
        x.erase();
        Check.feedAll(x, units);
        check.due("5: refused " + Arrays.toString(units), x.fromSixteens(), -1 - good);
        check.dueRow("5: the list stays", Check.listOf(x), 7);
        check.due("5: the input stays", x.erase(), units.length);
    }

    private static void promise6FromLetters() {
        lettersRead("");
        lettersRead("a-", 'a');
        lettersRead("--", '-');
        lettersRead("---", '-', '-');
        lettersRead("-a-", '-', 'a');
        lettersRead("bcher-kva", 'b', 252, 'c', 'h', 'e', 'r');
        lettersRead("bcher-KVA", 'b', 252, 'c', 'h', 'e', 'r');
        lettersRead("tda", 252);
        lettersRead("TDA", 252);
        lettersRead("a", 128);
        lettersRead("aa", 128, 128);
        lettersRead("b-c-a", 128, 'b', '-', 'c');
        lettersRead("\u0000\u007f-a", 128, 0, 127);
        lettersRead("dn32g", 1114111);

        ScalarScribe emptied = Check.fed('a', '-');
        emptied.fromLetters();
        emptied.erase();
        check.due("6: the empty row takes its place", emptied.fromLetters(), 0);
        check.due("6: the list is empty", emptied.count(), 0);

        ScalarScribe full = Check.fed(Check.repeated('a', 120));
        check.due("6: 120 numbers", full.fromLetters(), 120);
        check.dueRow("6: 120 numbers", Check.listOf(full), Check.repeated(128, 120));
        check.due("6: the input stays", full.erase(), 120);
    }

    private static void lettersRead(String text, int... scalars) {
        ScalarScribe x = Check.fedText(text);
        check.due("6: '" + text + "'", x.fromLetters(), scalars.length);
        check.dueRow("6: '" + text + "'", Check.listOf(x), scalars);
    }

    private static void promise6FromLettersFaults() {
        lettersRefused(-1, '-');
        lettersRefused(-1, '-', 'a');
        lettersRefused(-1, 200);
        lettersRefused(-1, -1);
        lettersRefused(-1, LEAST);
        lettersRefused(-1, 'k');
        lettersRefused(-1, 'k', 'v', '!');
        lettersRefused(-1, 'k', 'v');
        lettersRefused(-1, 'a', '-', 'k');
        lettersRefused(-1, 'a', '-', 200);
        lettersRefused(-1, 'a', '/');
        lettersRefused(-1, 'a', ':');
        lettersRefused(-1, 'a', '@');
        lettersRefused(-1, 'a', '[');
        lettersRefused(-1, 'a', '`');
        lettersRefused(-1, 'a', '{');
        lettersRefused(-3, 128, '-');
        lettersRefused(-3, -1, '-', 'a');
        lettersRefused(-3, 'a', LEAST, 'b', '-', 'a');
        lettersRefused(-3, 'a', GREATEST, '-', '!');
        lettersRefused(-3, '-', 200, '-');
        lettersRefused(-4, 'e', 'n', '3', '2', 'g');
        // the value is looked at before the next number is
        lettersRefused(-4, 'e', 'n', '3', '2', 'g', '!');
    }

    private static void promise6FromLettersOverflows() {
        // Of the first number the weights are 1, 35, 1225, 12250 and ten times as much each, and
        // 0 .. 9 from the third on are never its last digit: the eighth makes the sum too great.
        lettersRefused(-1, text("bb00000"));
        lettersRefused(-1, text("bb00000!"));
        lettersRefused(-2, text("bb000000"));
        lettersRefused(-2, text("bb000000!"));
        lettersRefused(-2, text("99999999"));
        // The number 2147483519 makes V the greatest int, one more is an overflow of V.
        lettersRefused(-4, text("8016146o"));
        lettersRefused(-2, text("9016146o"));
        // Behind "x-" the greatest int is a number still: V is but half of it then.
        lettersRefused(-4, text("x-w416146o"));
        lettersRefused(-2, text("x-x416146o"));
        // Behind "a", P is 1: 2147483646 makes it the greatest int, one more is an overflow of P,
        // and again one more is an overflow of the sum.
        lettersRefused(-4, text("a06749585s"));
        lettersRefused(-2, text("a16749585s"));
        lettersRefused(-2, text("a26749585s"));
    }

    private static int[] text(String text) {
        return text.codePoints().toArray();
    }

    private static void lettersRefused(int answer, int... units) {
        ScalarScribe x = Check.fed(7);
        x.fromEights();
        x.erase();
        Check.feedAll(x, units);
        check.due("6: refused " + Arrays.toString(units), x.fromLetters(), answer);
        check.dueRow("6: the list stays", Check.listOf(x), 7);
        check.due("6: the input stays", x.erase(), units.length);
    }

    private static void promise7MendByEights() {
        mended(true, 0, new int[] {65, 195, 188}, 65, 252);
        mended(true, 0, new int[] {});
        mended(true, 1, new int[] {226, 130}, 65533);
        mended(true, 1, new int[] {226, 130, 65}, 65533, 65);
        mended(true, 2, new int[] {226, 226, 130}, 65533, 65533);
        mended(true, 3, new int[] {237, 160, 128}, 65533, 65533, 65533);
        mended(true, 2, new int[] {192, 128}, 65533, 65533);
        mended(true, 1, new int[] {240, 144, 128}, 65533);
        mended(true, 4, new int[] {244, 144, 128, 128}, 65533, 65533, 65533, 65533);
        mended(true, 2, new int[] {240, 144, 128, 240, 144, 128, 128, 255}, 65533, 65536, 65533);
        mended(true, 3, new int[] {-1, 256, LEAST}, 65533, 65533, 65533);
        mended(true, 1, new int[] {239, 191, 189, 128}, 65533, 65533);
        mended(true, 120, Check.repeated(255, 120), Check.repeated(65533, 120));
    }

    private static void promise7MendBySixteens() {
        mended(false, 0, new int[] {55296, 56320, 65}, 65536, 65);
        mended(false, 1, new int[] {55296}, 65533);
        mended(false, 1, new int[] {55296, 55296, 56320}, 65533, 65536);
        mended(false, 2, new int[] {56320, 55296}, 65533, 65533);
        mended(false, 1, new int[] {65533, 57343}, 65533, 65533);
        mended(false, 3, new int[] {-1, 65536, GREATEST, 65535}, 65533, 65533, 65533, 65535);
        mended(false, 2, new int[] {55296, -1}, 65533, 65533);
        mended(false, 120, Check.repeated(56319, 120), Check.repeated(65533, 120));
    }

    private static void mended(boolean eights, int answer, int[] units, int... scalars) {
        ScalarScribe x = Check.fedText("abcde");
        x.fromEights();
        x.erase();
        Check.feedAll(x, units);
        String what = "7: mend(" + eights + ") of " + Arrays.toString(units);
        check.due(what, x.mend(eights), answer);
        check.dueRow(what, Check.listOf(x), scalars);
        check.due("7: the input stays", x.erase(), units.length);
    }

    private static void promise8ToEights() {
        ScalarScribe x = listed(0, 127, 128, 2047, 2048, 55295, 57344, 65535, 65536, 1114111);
        check.due("8: units", x.toEights(), 26);
        check.dueRow("8: units", Check.outputOf(x), 0, 127, 194, 128, 223, 191, 224, 160, 128,
                237, 159, 191, 238, 128, 128, 239, 191, 191, 240, 144, 128, 128, 244, 143, 191, 191);
        check.due("8: the list stays", x.count(), 10);

        ScalarScribe edge = pairs(100);
        check.due("8: 400 units", edge.toEights(), 400);
        Check.feedAll(edge, 'a');
        check.due("8: one scalar more", edge.fromLetters(), 101);
        check.due("8: more than 400", edge.toEights(), -1);
        check.due("8: the output stays", edge.length(), 400);
        check.due("8: its end stays", edge.out(399), 128);

        ScalarScribe odd = listed('x', 65536);
        odd.toLetters();
        odd.turn();
        Check.feedAll(odd, Check.repeated('a', 98));
        check.due("8: one and 99 pairs", odd.fromLetters(), 100);
        check.due("8: 397 units", odd.toEights(), 397);
        Check.feedAll(odd, 'a');
        check.due("8: one and 100 pairs", odd.fromLetters(), 101);
        check.due("8: 401 units", odd.toEights(), -1);
        check.due("8: the output stays at 397", odd.length(), 397);
    }

    private static void promise9ToSixteens() {
        ScalarScribe x = listed(0, 55295, 57344, 65535, 65536, 1114111, 128512);
        check.due("9: units", x.toSixteens(), 10);
        check.dueRow("9: units", Check.outputOf(x),
                0, 55295, 57344, 65535, 55296, 56320, 56319, 57343, 55357, 56832);
        check.due("9: the list stays", x.count(), 7);
        ScalarScribe many = pairs(116);
        check.due("9: 116 pairs", many.toSixteens(), 232);
    }

    private static void promise10ToLetters() {
        lettersWritten("");
        lettersWritten("a-", 'a');
        lettersWritten("--", '-');
        lettersWritten("bcher-kva", 'b', 252, 'c', 'h', 'e', 'r');
        lettersWritten("tda", 252);
        lettersWritten("aa", 128, 128);
        lettersWritten("dn32g", 1114111);
        lettersWritten("\u0000\u007f-a", 128, 0, 127);

        // Scalars far apart, each below the one before: every number is long.
        int[] wide = new int[120];
        for (int i = 0; i < 120; i++) {
            wide[i] = 55295 - 450 * ((i * 71) % 120);
        }
        ScalarScribe x = new ScalarScribe();
        Check.feedAll(x, 'x');
        x.fromEights();
        check.due("10: before", x.toLetters(), 2);
        x.erase();
        Check.feedAll(x, wide);
        check.due("10: 120 wide ones", x.fromSixteens(), 120);
        check.due("10: more than 400", x.toLetters(), -1);
        check.dueRow("10: the output stays", Check.outputOf(x), 'x', '-');
    }

    private static void lettersWritten(String text, int... scalars) {
        ScalarScribe x = listed(scalars);
        check.due("10: '" + text + "'", x.toLetters(), text.length());
        check.dueRow("10: '" + text + "'", Check.outputOf(x), text.codePoints().toArray());
        check.dueRow("10: the list stays", Check.listOf(x), scalars);
        check.due("10: once more", x.toLetters(), text.length());
    }

    private static void promise11Turn() {
        ScalarScribe x = listed(128512, 97);
        x.toEights();
        check.due("11: turn", x.turn(), 5);
        check.due("11: the output stays", x.length(), 5);
        check.due("11: feed behind it", x.feed(98), true);
        check.dueRow("11: feeding leaves the output", Check.outputOf(x), 240, 159, 152, 128, 97);
        check.due("11: read it", x.fromEights(), 3);
        check.dueRow("11: read it", Check.listOf(x), 128512, 97, 98);
        check.due("11: had", x.erase(), 6);
        check.due("11: erasing leaves the output", x.length(), 5);

        ScalarScribe most = pairs(60);
        most.toSixteens();
        check.due("11: 120 units", most.turn(), 120);
        check.due("11: no more then", most.feed(0), false);
        check.due("11: read 120", most.fromSixteens(), 60);

        ScalarScribe more = pairs(61);
        more.toSixteens();
        check.due("11: 122 units", more.turn(), -1);
        check.due("11: the input stays", more.fromLetters(), 61);

        ScalarScribe odd = Check.fed(Check.repeated(65, 119));
        Check.feedAll(odd, 65);
        odd.fromEights();
        odd.toLetters();
        check.due("11: 121 units", odd.turn(), -1);
        check.due("11: the input stays at 120", odd.erase(), 120);

        ScalarScribe none = Check.fed(65);
        check.due("11: the empty output", none.turn(), 0);
        check.due("11: no input then", none.erase(), 0);
    }

    private static void promise12And13CountAndPoint() {
        ScalarScribe x = listed(10, 20, 30);
        check.due("12: count", x.count(), 3);
        check.due("13: point(0)", x.point(0), 10);
        check.due("13: point(2)", x.point(2), 30);
        check.due("13: point(3)", x.point(3), -1);
        check.due("13: point(-1)", x.point(-1), -1);
        check.due("13: point(120)", x.point(120), -1);
        check.due("13: point of the least", x.point(LEAST), -1);
        check.due("13: point of the greatest", x.point(GREATEST), -1);
        x.erase();
        Check.feedAll(x, 40);
        x.fromEights();
        check.due("12: count of a shorter one", x.count(), 1);
        check.due("13: nothing of the old list", x.point(1), -1);
    }

    private static void promise14And15LengthAndOut() {
        ScalarScribe x = listed(10, 20, 30);
        x.toEights();
        check.due("14: length", x.length(), 3);
        check.due("15: out(0)", x.out(0), 10);
        check.due("15: out(2)", x.out(2), 30);
        check.due("15: out(3)", x.out(3), -1);
        check.due("15: out(-1)", x.out(-1), -1);
        check.due("15: out(400)", x.out(400), -1);
        check.due("15: out of the least", x.out(LEAST), -1);
        check.due("15: out of the greatest", x.out(GREATEST), -1);
        x.erase();
        Check.feedAll(x, 40);
        x.fromEights();
        check.due("14: the output is the old one still", x.length(), 3);
        x.toEights();
        check.due("14: length of a shorter one", x.length(), 1);
        check.due("15: nothing of the old output", x.out(1), -1);
    }

    private static void promise16Keep() {
        ScalarScribe x = listed(10, 20);
        check.due("16: the empty one at first", x.compare(false), 1);
        x.keep();
        check.due("16: kept", x.compare(false), 0);
        x.erase();
        Check.feedAll(x, 10, 30);
        x.fromEights();
        check.due("16: a new list is not the kept one", x.compare(false), 1);
        x.keep();
        check.due("16: in place of the old one", x.compare(false), 0);
        x.mend(true);
        check.due("16: mended to the same", x.compare(true), 0);
        x.erase();
        x.mend(true);
        check.due("16: what is kept stays", x.compare(true), -1);
        x.keep();
        check.due("16: the empty one kept", x.compare(true), 0);
    }

    private static void promise17Compare() {
        compared(0, 0, new int[] {}, new int[] {});
        compared(-1, -1, new int[] {}, new int[] {0});
        compared(-1, -1, new int[] {1}, new int[] {2});
        compared(-1, -1, new int[] {1}, new int[] {1, 0});
        compared(-1, -1, new int[] {1, 9, 9}, new int[] {2});
        compared(-1, -1, new int[] {1, 2, 3}, new int[] {1, 3, 2});
        compared(-1, -1, new int[] {55295}, new int[] {57344});
        compared(-1, -1, new int[] {55295}, new int[] {65536});
        compared(-1, 1, new int[] {57344}, new int[] {65536});
        compared(-1, 1, new int[] {65535}, new int[] {1114111});
        compared(-1, 1, new int[] {5, 65535}, new int[] {5, 65536, 7});
        compared(-1, -1, new int[] {65536}, new int[] {65537});
        compared(-1, -1, new int[] {65536}, new int[] {66560});
        compared(-1, -1, new int[] {66559}, new int[] {66560});
        compared(-1, -1, new int[] {65536}, new int[] {65536, 0});
        compared(-1, -1, new int[] {65536, 65535}, new int[] {65537, 0});
        compared(-1, -1, new int[] {57344}, new int[] {65535});
        compared(-1, 1, new int[] {60000, 1}, new int[] {70000});
    }

    private static void compared(int byScalars, int bySixteens, int[] one, int[] other) {
        String what = Arrays.toString(one) + " with " + Arrays.toString(other);
        comparedOneWay(what, byScalars, bySixteens, one, other);
        comparedOneWay(what + " turned round", -byScalars, -bySixteens, other, one);
        comparedOneWay("with itself", 0, 0, one, one);
    }

    private static void comparedOneWay(
            String what, int byScalars, int bySixteens, int[] one, int[] other) {
        ScalarScribe x = listed(other);
        x.keep();
        list(x, one);
        check.due("17: by scalars, " + what, x.compare(false), byScalars);
        check.due("17: by sixteens, " + what, x.compare(true), bySixteens);
        check.dueRow("17: the list stays", Check.listOf(x), one);
    }

    private static ScalarScribe listed(int... scalars) {
        ScalarScribe x = new ScalarScribe();
        list(x, scalars);
        return x;
    }

    private static void list(ScalarScribe x, int... scalars) {
        x.erase();
        for (char unit : Check.textOf(scalars).toCharArray()) {
            x.feed(unit);
        }
        x.fromSixteens();
        check.dueRow("listed", Check.listOf(x), scalars);
    }

    /** So many times 65536, by letters: the input can hold more of them so than by sixteens. */
    private static ScalarScribe pairs(int times) {
        ScalarScribe x = Check.fedText("2n7c");
        Check.feedAll(x, Check.repeated('a', times - 1));
        check.due("pairs", x.fromLetters(), times);
        return x;
    }
}
