import java.util.Arrays;

/** What the tests share: they count wrong answers, print each, and end with 1 if there was one. */
final class Check {
    static final int GREATEST = Integer.MAX_VALUE;
    static final int LEAST = Integer.MIN_VALUE;

    private static final int MOST_PRINTED = 50;

    private final Document document = new Document();
    private String about = "";
    private int asked;
    private int wrong;

    /** Says which sentence of the document the answers from here on are for. */
    void about(String heading, String words) {
        about = heading + ", \"" + words + "\": ";
        due("the document says so", document.says(heading, words), true);
    }

    /** No sentence of the section may be left without a test that is about it. */
    void dueAllQuoted(String heading) {
        about = heading + ": ";
        String left = document.unquoted(heading);
        asked++;
        if (!left.isEmpty()) {
            tellWrong("words that no test is about:", left, "none");
        }
    }

    void due(String what, long got, long want) {
        asked++;
        if (got != want) {
            tellWrong(what, Long.toString(got), Long.toString(want));
        }
    }

    void due(String what, boolean got, boolean want) {
        asked++;
        if (got != want) {
            tellWrong(what, Boolean.toString(got), Boolean.toString(want));
        }
    }

    void due(String what, String got, String want) {
        asked++;
        if (!got.equals(want)) {
            tellWrong(what, got, want);
        }
    }

    void dueRow(String what, int[] got, int... want) {
        asked++;
        if (!Arrays.equals(got, want)) {
            tellWrong(what, Arrays.toString(got), Arrays.toString(want));
        }
    }

    private void tellWrong(String what, String got, String want) {
        wrong++;
        if (wrong <= MOST_PRINTED) {
            System.out.println(about + what + " answered " + got + ", due is " + want);
        }
    }

    void end() {
        System.out.println(asked + " answers, " + wrong + " not as due");
        if (wrong != 0) {
            System.exit(1);
        }
    }

    /** The units give these scalars, in place of another list, and stay in the input. */
    void reads(By way, int[] units, int... scalars) {
        String what = way + ", reading " + Arrays.toString(units);
        ScalarScribe x = withList7(units);
        due(what, way.from(x), scalars.length);
        dueRow("the list, " + what, listOf(x), scalars);
        due("the input stays, " + what, x.erase(), units.length);
    }

    /** The units are refused with this answer, and the list and the input stay. */
    void refuses(By way, int answer, int... units) {
        String what = way + ", refusing " + Arrays.toString(units);
        ScalarScribe x = withList7(units);
        due(what, way.from(x), answer);
        dueRow("the list stays, " + what, listOf(x), 7);
        due("the input stays, " + what, x.erase(), units.length);
    }

    /** The scalars are written as these units, in place of another output, and stay the list. */
    void writes(By way, int[] units, int... scalars) {
        String what = way + ", writing " + Arrays.toString(scalars);
        ScalarScribe x = listed(7);
        way.to(x);
        list(x, scalars);
        due(what, way.to(x), units.length);
        dueRow("the output, " + what, outputOf(x), units);
        dueRow("the list stays, " + what, listOf(x), scalars);
    }

    void readsAndWrites(By way, int[] units, int... scalars) {
        reads(way, units, scalars);
        writes(way, units, scalars);
    }

    void mends(boolean eights, int answer, int[] units, int... scalars) {
        String what = "mend(" + eights + ") of " + Arrays.toString(units);
        ScalarScribe x = withList7(units);
        due(what, x.mend(eights), answer);
        dueRow("the list, " + what, listOf(x), scalars);
        due("the input stays, " + what, x.erase(), units.length);
    }

    /** One row with another, the other with it, and each with itself. */
    void compares(int byScalars, int bySixteens, int[] one, int[] other) {
        comparesOnce(byScalars, bySixteens, one, other);
        comparesOnce(-byScalars, -bySixteens, other, one);
        comparesOnce(0, 0, one, one);
        comparesOnce(0, 0, other, other);
    }

    private void comparesOnce(int byScalars, int bySixteens, int[] one, int[] other) {
        String what = Arrays.toString(one) + " with " + Arrays.toString(other);
        ScalarScribe x = listed(other);
        x.keep();
        list(x, one);
        due("by scalars, " + what, x.compare(false), byScalars);
        due("by sixteens, " + what, x.compare(true), bySixteens);
        dueRow("the list stays, " + what, listOf(x), one);
    }

    /** An object whose list is these scalars, which must be at most 120 units by sixteens. */
    ScalarScribe listed(int... scalars) {
        ScalarScribe x = new ScalarScribe();
        list(x, scalars);
        return x;
    }

    void list(ScalarScribe x, int... scalars) {
        x.erase();
        for (char unit : textOf(scalars).toCharArray()) {
            x.feed(unit);
        }
        due("listed", x.fromSixteens(), scalars.length);
    }

    /** So many times 65536, by letters: the input can hold more of them so than by sixteens. */
    ScalarScribe pairs(int times) {
        ScalarScribe x = fedText("2n7c");
        feedAll(x, repeated('a', times - 1));
        due("pairs", x.fromLetters(), times);
        return x;
    }

    private static ScalarScribe withList7(int... units) {
        ScalarScribe x = fed(7);
        x.fromEights();
        x.erase();
        feedAll(x, units);
        return x;
    }

    static void feedAll(ScalarScribe scribe, int... units) {
        for (int unit : units) {
            scribe.feed(unit);
        }
    }

    static ScalarScribe fed(int... units) {
        ScalarScribe scribe = new ScalarScribe();
        feedAll(scribe, units);
        return scribe;
    }

    static ScalarScribe fedText(String text) {
        return fed(units(text));
    }

    static int[] listOf(ScalarScribe scribe) {
        int[] scalars = new int[scribe.count()];
        for (int i = 0; i < scalars.length; i++) {
            scalars[i] = scribe.point(i);
        }
        return scalars;
    }

    static int[] outputOf(ScalarScribe scribe) {
        return outputOf(scribe, 0, scribe.length());
    }

    /** A part alone, since an object answers but 512 calls and a whole output may be 400. */
    static int[] outputOf(ScalarScribe scribe, int from, int to) {
        int[] units = new int[to - from];
        for (int i = from; i < to; i++) {
            units[i - from] = scribe.out(i);
        }
        return units;
    }

    static int[] row(int... units) {
        return units;
    }

    static int[] units(String text) {
        return text.codePoints().toArray();
    }

    static int[] repeated(int unit, int times) {
        int[] units = new int[times];
        Arrays.fill(units, unit);
        return units;
    }

    static int[] joined(int[] one, int... other) {
        int[] both = Arrays.copyOf(one, one.length + other.length);
        System.arraycopy(other, 0, both, one.length, other.length);
        return both;
    }

    static String textOf(int[] units) {
        return new String(units, 0, units.length);
    }
}
