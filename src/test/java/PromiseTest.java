/** Each promise by ordinary inputs, worked out by hand; the edges stand in the boundary tests. */
public final class PromiseTest {
    private static final Check check = new Check();

    public static void main(String[] args) {
        promise1NewObject();
        promise2Feed();
        promise3Erase();
        promise4FromEights();
        promise5FromSixteens();
        promise6FromLetters();
        promise7Mend();
        promise8ToEights();
        promise9ToSixteens();
        promise10ToLetters();
        promise11Turn();
        promise12And13CountAndPoint();
        promise14And15LengthAndOut();
        promise16Keep();
        promise17Compare();
        check.end();
    }

    private static void promise1NewObject() {
        ScalarScribe x = new ScalarScribe();
        check.due("1: NONE", ScalarScribe.NONE, -1);
        check.due("1: count", x.count(), 0);
        check.due("1: length", x.length(), 0);
        check.due("1: compare(true)", x.compare(true), 0);
        check.due("1: compare(false)", x.compare(false), 0);
        check.due("1: erase", x.erase(), 0);
    }

    private static void promise2Feed() {
        ScalarScribe x = new ScalarScribe();
        check.due("2: feed", x.feed(97), true);
        check.due("2: feed another", x.feed(98), true);
        check.due("2: read", x.fromEights(), 2);
        check.dueRow("2: in their order", Check.listOf(x), 97, 98);
        check.due("2: feed behind what is read", x.feed(99), true);
        check.due("2: read all", x.fromEights(), 3);
    }

    private static void promise3Erase() {
        ScalarScribe x = Check.fedText("abc");
        x.fromEights();
        x.toEights();
        check.due("3: erase", x.erase(), 3);
        check.due("3: erase again", x.erase(), 0);
        check.due("3: the list stays", x.count(), 3);
        check.due("3: the output stays", x.length(), 3);
        Check.feedAll(x, 'd');
        check.due("3: fed anew", x.fromEights(), 1);
        check.dueRow("3: only what is new", Check.listOf(x), 'd');
    }

    private static void promise4FromEights() {
        check.reads(By.EIGHTS, Check.row(97, 195, 188, 226, 130, 172, 240, 159, 152, 128, 122),
                97, 252, 8364, 128512, 122);
        check.refuses(By.EIGHTS, -4, 65, 66, 67, 128);
        check.refuses(By.EIGHTS, -6, 65, 195, 188, 226, 130);
        check.refuses(By.EIGHTS, -3, 237, 159, 192);
        check.refuses(By.EIGHTS, -4, 244, 143, 191, 384);
        ScalarScribe x = Check.fed(195, 188);
        x.fromEights();
        x.erase();
        check.due("4: the empty row takes its place", x.fromEights(), 0);
        check.due("4: the list is empty", x.count(), 0);
    }

    private static void promise5FromSixteens() {
        check.reads(By.SIXTEENS, Check.row(97, 252, 8364, 55357, 56832, 122),
                97, 252, 8364, 128512, 122);
        check.refuses(By.SIXTEENS, -4, 65, 55357, 56832, 56832);
        check.refuses(By.SIXTEENS, -5, 65, 55357, 56832, 55357, 65);
        check.refuses(By.SIXTEENS, -2, 55296, -1);
    }

    private static void promise6FromLetters() {
        check.reads(By.LETTERS, Check.units("bcher-kva"), 'b', 252, 'c', 'h', 'e', 'r');
        check.reads(By.LETTERS, Check.units("bcher-KVA"), 'b', 252, 'c', 'h', 'e', 'r');
        check.reads(By.LETTERS, Check.units("tda"), 252);
        check.reads(By.LETTERS, Check.units("TDA"), 252);
        check.reads(By.LETTERS, Check.units("b-c-a"), 128, 'b', '-', 'c');
        check.refuses(By.LETTERS, -1, Check.units("bcher-kv"));
        check.refuses(By.LETTERS, -1, Check.units("bcher-kv!"));
        check.refuses(By.LETTERS, -2, Check.units("99999999"));
        check.refuses(By.LETTERS, -3, Check.units("b\u00fccher-kva"));
        check.refuses(By.LETTERS, -4, Check.units("99999a"));
    }

    private static void promise7Mend() {
        check.mends(true, 0, Check.row(65, 195, 188), 65, 252);
        check.mends(true, 1, Check.row(226, 130, 65), 65533, 65);
        check.mends(true, 2, Check.row(226, 226, 130), 65533, 65533);
        check.mends(true, 2, Check.row(240, 144, 128, 240, 144, 128, 128, 255),
                65533, 65536, 65533);
        check.mends(false, 0, Check.row(55357, 56832, 65), 128512, 65);
        check.mends(false, 1, Check.row(55296, 55357, 56832), 65533, 128512);
        check.mends(false, 2, Check.row(56320, 55296), 65533, 65533);
    }

    private static void promise8ToEights() {
        check.writes(By.EIGHTS, Check.row(97, 195, 188, 226, 130, 172, 240, 159, 152, 128, 122),
                97, 252, 8364, 128512, 122);
    }

    private static void promise9ToSixteens() {
        check.writes(By.SIXTEENS, Check.row(97, 252, 8364, 55357, 56832, 122),
                97, 252, 8364, 128512, 122);
    }

    private static void promise10ToLetters() {
        check.writes(By.LETTERS, Check.units("bcher-kva"), 'b', 252, 'c', 'h', 'e', 'r');
        check.writes(By.LETTERS, Check.units("tda"), 252);
        ScalarScribe x = check.listed('b', 252);
        check.due("10: written", x.toLetters(), 5);
        check.due("10: written once more", x.toLetters(), 5);
    }

    private static void promise11Turn() {
        ScalarScribe x = check.listed(128512, 97);
        x.toEights();
        check.due("11: turn", x.turn(), 5);
        check.due("11: the output stays", x.length(), 5);
        check.due("11: feed behind it", x.feed(98), true);
        check.dueRow("11: feeding leaves the output", Check.outputOf(x), 240, 159, 152, 128, 97);
        check.due("11: read it", x.fromEights(), 3);
        check.dueRow("11: read it", Check.listOf(x), 128512, 97, 98);
        check.due("11: had", x.erase(), 6);
        check.due("11: erasing leaves the output", x.length(), 5);
    }

    private static void promise12And13CountAndPoint() {
        ScalarScribe x = check.listed(10, 20, 30);
        check.due("12: count", x.count(), 3);
        check.due("13: point(0)", x.point(0), 10);
        check.due("13: point(1)", x.point(1), 20);
        check.due("13: point(2)", x.point(2), 30);
        check.due("13: point(3)", x.point(3), -1);
        check.list(x, 40);
        check.due("12: count of a shorter one", x.count(), 1);
        check.due("13: nothing of the old list", x.point(1), -1);
    }

    private static void promise14And15LengthAndOut() {
        ScalarScribe x = check.listed(10, 20, 30);
        x.toEights();
        check.due("14: length", x.length(), 3);
        check.due("15: out(0)", x.out(0), 10);
        check.due("15: out(1)", x.out(1), 20);
        check.due("15: out(2)", x.out(2), 30);
        check.due("15: out(3)", x.out(3), -1);
        check.list(x, 40);
        check.due("14: the output is the old one still", x.length(), 3);
        x.toEights();
        check.due("14: length of a shorter one", x.length(), 1);
        check.due("15: nothing of the old output", x.out(1), -1);
    }

    private static void promise16Keep() {
        ScalarScribe x = check.listed(10, 20);
        x.keep();
        check.due("16: kept", x.compare(false), 0);
        check.list(x, 10, 30);
        check.due("16: a new list is not the kept one", x.compare(false), 1);
        x.keep();
        check.due("16: in place of the old one", x.compare(false), 0);
        x.mend(true);
        check.due("16: mended to the same", x.compare(true), 0);
    }

    private static void promise17Compare() {
        check.compares(-1, -1, Check.row(1), Check.row(2));
        check.compares(-1, -1, Check.row(1), Check.row(1, 0));
        check.compares(-1, -1, Check.row(1, 2, 3), Check.row(1, 3, 2));
        check.compares(-1, 1, Check.row(60000, 1), Check.row(70000));
        check.compares(-1, 1, Check.row(5, 65500), Check.row(5, 128512, 7));
        check.compares(-1, -1, Check.row(65536, 65535), Check.row(65537, 0));
    }
}
