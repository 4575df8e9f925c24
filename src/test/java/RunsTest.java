import java.util.Random;

/** Runs of 512 mixed calls on one object, each call's answer against the model's. */
public final class RunsTest {
    private static final Check check = new Check();
    private static final Random random = new Random(7);
    private static final int CALLS = 512;

    private static final int[] UNITS = {
        -1, 0, 45, 48, 57, 65, 90, 97, 98, 107, 116, 122, 127, 128, 143, 144, 160, 191, 192, 194,
        223, 224, 226, 237, 239, 240, 244, 245, 256, 2048, 55295, 55296, 56319, 56320, 57343, 57344,
        65533, 65535, 65536
    };

    private static ScalarScribe scribe;
    private static Model model;

    public static void main(String[] args) {
        for (int run = 0; run < 4000; run++) {
            scribe = new ScalarScribe();
            model = new Model();
            int taste = random.nextInt(6);
            for (int call = 0; call < CALLS; call++) {
                oneCall("run " + run + ", call " + call + ": ", taste);
            }
        }
        check.end();
    }

    private static void oneCall(String when, int taste) {
        boolean flag = random.nextBoolean();
        int index = random.nextInt(10) == 0 ? random.nextInt() : random.nextInt(410) - 3;
        switch (random.nextInt(50)) {
            case 0:
                check.due(when + "erase", scribe.erase(), model.erase());
                break;
            case 1:
            case 2:
                check.due(when + "fromEights", scribe.fromEights(), model.from(true));
                break;
            case 3:
            case 4:
                check.due(when + "fromSixteens", scribe.fromSixteens(), model.from(false));
                break;
            case 5:
            case 6:
                check.due(when + "fromLetters", scribe.fromLetters(), model.fromLetters());
                break;
            case 7:
            case 8:
                check.due(when + "mend " + flag, scribe.mend(flag), model.mend(flag));
                break;
            case 9:
            case 10:
                check.due(when + "toEights", scribe.toEights(), model.to(true));
                break;
            case 11:
                check.due(when + "toSixteens", scribe.toSixteens(), model.to(false));
                break;
            case 12:
            case 13:
                check.due(when + "toLetters", scribe.toLetters(), model.toLetters());
                break;
            case 14:
                check.due(when + "turn", scribe.turn(), model.turn());
                break;
            case 15:
                check.due(when + "count", scribe.count(), model.count());
                break;
            case 16:
                check.due(when + "point " + index, scribe.point(index), model.point(index));
                break;
            case 17:
                int near = random.nextInt(model.count() + 1);
                check.due(when + "point " + near, scribe.point(near), model.point(near));
                break;
            case 18:
                check.due(when + "length", scribe.length(), model.length());
                break;
            case 19:
            case 20:
                check.due(when + "out " + index, scribe.out(index), model.out(index));
                break;
            case 21:
                scribe.keep();
                model.keep();
                break;
            case 22:
            case 23:
                check.due(when + "compare " + flag, scribe.compare(flag), model.compare(flag));
                break;
            default:
                int unit = someUnit(taste);
                check.due(when + "feed " + unit, scribe.feed(unit), model.feed(unit));
                break;
        }
    }

    private static int someUnit(int taste) {
        switch (taste) {
            case 0:
                return UNITS[random.nextInt(UNITS.length)];
            case 1:
                return random.nextInt(128);
            case 2:
                boolean surrogate = random.nextInt(3) == 0;
                return surrogate ? 55296 + random.nextInt(2048) : random.nextInt(65536);
            case 3:
                return random.nextInt(3) == 0 ? 'a' : '0' + random.nextInt(75);
            case 4:
                return 128 + random.nextInt(120);
            default:
                return 2000 + random.nextInt(53000);
        }
    }
}
