import java.util.ArrayList;
import java.util.List;
import java.util.Random;

/** Promises 6 and 10: published examples, every single scalar, and many rows against the model. */
public final class LettersTest {
    private static final Check check = new Check();
    private static final Random random = new Random(20261115);
    private static final int[] SCALAR_EDGES = {
        0, 45, 97, 127, 128, 129, 255, 2047, 2048, 55295, 57344, 65535, 65536, 1114110, 1114111
    };

    public static void main(String[] args) {
        published();
        everyScalar();
        for (int i = 0; i < 20000; i++) {
            writeAndReadAgain(someScalars());
        }
        for (int i = 0; i < 200000; i++) {
            readAsTheModelDoes(someUnits());
        }
        check.end();
    }

    private static void published() {
        example("ihqwcrb4cv8a8dqg056pqjye",
                0x4ED6, 0x4EEC, 0x4E3A, 0x4EC0, 0x4E48, 0x4E0D, 0x8BF4, 0x4E2D, 0x6587);
        example("Proprostnemluvesky-uyb24dma41a",
                'P', 'r', 'o', 0x10D, 'p', 'r', 'o', 's', 't', 0x11B, 'n', 'e', 'm', 'l', 'u', 'v',
                0xED, 0x10D, 'e', 's', 'k', 'y');
        example("3B-ww4c5e180e575a65lsy2b",
                '3', 0x5E74, 'B', 0x7D44, 0x91D1, 0x516B, 0x5148, 0x751F);
        example("2-u9tlzr9756bt3uc0v",
                0x3072, 0x3068, 0x3064, 0x5C4B, 0x6839, 0x306E, 0x4E0B, '2');
        example("MajiKoi5-783gue6qz075azm5e",
                'M', 'a', 'j', 'i', 0x3067, 'K', 'o', 'i', 0x3059, 0x308B, '5', 0x79D2, 0x524D);
        example("de-jg4avhby1noc0d",
                0x30D1, 0x30D5, 0x30A3, 0x30FC, 'd', 'e', 0x30EB, 0x30F3, 0x30D0);
        example("d9juau41awczczp", 0x305D, 0x306E, 0x30B9, 0x30D4, 0x30FC, 0x30C9, 0x3067);
        example("-> $1.00 <--", "-> $1.00 <-".codePoints().toArray());
    }

    private static void example(String text, int... scalars) {
        ScalarScribe x = Check.fedText(text);
        check.due("read " + text, x.fromLetters(), scalars.length);
        check.dueRow("read " + text, Check.listOf(x), scalars);
        check.due("write " + text, x.toLetters(), text.length());
        check.dueRow("write " + text, Check.outputOf(x), text.codePoints().toArray());
    }

    private static void everyScalar() {
        for (int v = 0; v <= 1114111; v++) {
            if (Model.isScalar(v)) {
                ScalarScribe x = Check.fed(Model.form(v, false));
                x.fromSixteens();
                int size = x.toLetters();
                check.due("turn " + v, x.turn(), size);
                check.due("read again " + v, x.fromLetters(), 1);
                check.due("scalar " + v, x.point(0), v);
            }
        }
    }

    private static void writeAndReadAgain(List<Integer> scalars) {
        List<Integer> units = Model.lettersOf(scalars);
        boolean tooMany = units.size() > 400;
        ScalarScribe x = listed(scalars);
        check.due("write " + scalars, x.toLetters(), tooMany ? -1 : units.size());
        if (!tooMany) {
            // An object answers but 512 calls, so that each half of the output is asked of its own.
            int half = units.size() / 2;
            ScalarScribe y = listed(scalars);
            y.toLetters();
            check.dueRow("write " + scalars, Check.outputOf(x, 0, half),
                    Model.toArray(units.subList(0, half)));
            check.dueRow("write " + scalars, Check.outputOf(y, half, units.size()),
                    Model.toArray(units.subList(half, units.size())));
        }
        if (units.size() <= 120) {
            x.keep();
            x.turn();
            check.due("read " + units, x.fromLetters(), scalars.size());
            check.due("the same " + scalars, x.compare(false), 0);
        }
    }

    private static ScalarScribe listed(List<Integer> scalars) {
        ScalarScribe x = Check.fed(Model.toArray(Model.rowOf(scalars, false)));
        check.due("listed", x.fromSixteens(), scalars.size());
        return x;
    }

    private static void readAsTheModelDoes(List<Integer> units) {
        Model model = new Model();
        ScalarScribe x = new ScalarScribe();
        for (int unit : units) {
            model.feed(unit);
            x.feed(unit);
        }
        check.due("read " + units, x.fromLetters(), model.fromLetters());
        check.dueRow("list of " + units, Check.listOf(x), model.listed());
    }

    /** So many that the input can hold them by sixteens; now and then as many as it can. */
    private static List<Integer> someScalars() {
        int kind = random.nextInt(6);
        int most = kind == 0 ? 120 : random.nextInt(60);
        List<Integer> scalars = new ArrayList<>();
        for (int i = 0; i < most; i++) {
            scalars.add(kind == 0 ? 128 + random.nextInt(55000) : someScalar(kind));
        }
        return scalars;
    }

    private static int someScalar(int kind) {
        switch (kind) {
            case 1:
                return SCALAR_EDGES[random.nextInt(SCALAR_EDGES.length)];
            case 2:
                return random.nextInt(256);
            case 3:
                return 0x4E00 + random.nextInt(300);
            case 4:
                return random.nextInt(2) == 0 ? random.nextInt(128) : 1114111 - random.nextInt(9);
            default:
                int v = random.nextInt(1114112);
                return Model.isScalar(v) ? v : 65;
        }
    }

    private static List<Integer> someUnits() {
        List<Integer> units = new ArrayList<>();
        switch (random.nextInt(4)) {
            case 0:
                addDigits(units, random.nextInt(30), 36);
                break;
            case 1:
                addDigits(units, random.nextInt(121), 1 + random.nextInt(36));
                break;
            case 2:
                units.addAll(Model.lettersOf(someScalars()));
                spoil(units);
                break;
            default:
                int size = random.nextInt(20);
                for (int i = 0; i < size; i++) {
                    units.add(random.nextInt(132) - 2);
                }
                break;
        }
        if (units.size() > 1 && random.nextInt(4) == 0) {
            units.set(random.nextInt(units.size()), 45);
        }
        return units.size() > 120 ? units.subList(0, 120) : units;
    }

    private static void addDigits(List<Integer> units, int size, int kinds) {
        for (int i = 0; i < size; i++) {
            int digit = random.nextInt(kinds);
            int letter = random.nextInt(2) == 0 ? 'a' : 'A';
            units.add(digit < 26 ? letter + digit : '0' + digit - 26);
        }
    }

    private static void spoil(List<Integer> units) {
        if (!units.isEmpty()) {
            int at = random.nextInt(units.size());
            boolean anyUnit = random.nextInt(3) == 0;
            units.set(at, anyUnit ? random.nextInt(140) - 5 : '0' + random.nextInt(10));
        }
    }
}
