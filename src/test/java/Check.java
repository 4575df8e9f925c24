import java.util.Arrays;

/** What the tests share: they count wrong answers, print each, and end with 1 if there was one. */
final class Check {
    private static final int MOST_PRINTED = 50;

    private int asked;
    private int wrong;

    void due(String what, long got, long want) {
        asked++;
        if (got != want) {
            tellWrong(what, Long.toString(got), Long.toString(want));
        }
    }

    void due(String what, boolean got, boolean want) {
        asked++;
        if (got != want) {
            tellWrong(what, Boolean.toString(got), Boolean.toString(want));
        }
    }

    void dueRow(String what, int[] got, int... want) {
        asked++;
        if (!Arrays.equals(got, want)) {
            tellWrong(what, Arrays.toString(got), Arrays.toString(want));
        }
    }

    private void tellWrong(String what, String got, String want) {
        wrong++;
        if (wrong <= MOST_PRINTED) {
            System.out.println(what + " answered " + got + ", due is " + want);
        }
    }

    void end() {
        System.out.println(asked + " answers, " + wrong + " not as due");
        if (wrong != 0) {
            System.exit(1);
        }
    }

    static void feedAll(ScalarScribe scribe, int... units) {
        for (int unit : units) {
            scribe.feed(unit);
        }
    }

    static ScalarScribe fed(int... units) {
        ScalarScribe scribe = new ScalarScribe();
        feedAll(scribe, units);
        return scribe;
    }

    static ScalarScribe fedText(String text) {
        return fed(text.codePoints().toArray());
    }

    static int[] listOf(ScalarScribe scribe) {
        int[] scalars = new int[scribe.count()];
        for (int i = 0; i < scalars.length; i++) {
            scalars[i] = scribe.point(i);
        }
        return scalars;
    }

    static int[] outputOf(ScalarScribe scribe) {
        int[] units = new int[scribe.length()];
        for (int i = 0; i < units.length; i++) {
            units[i] = scribe.out(i);
        }
        return units;
    }

    static int[] repeated(int unit, int times) {
        int[] units = new int[times];
        Arrays.fill(units, unit);
        return units;
    }

    static String textOf(int[] units) {
        return new String(units, 0, units.length);
    }
}
