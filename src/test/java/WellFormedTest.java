import java.util.Arrays;

/** Promises 4, 5, 7, 8, 9: every scalar, and every short row of units that lie at an edge. */
public final class WellFormedTest {
    private static final Check check = new Check();

    private static final int[] EIGHTS_EDGES = {
        -1, 0, 127, 128, 143, 144, 159, 160, 191, 192, 193, 194, 223, 224, 225, 236, 237, 238, 239,
        240, 241, 243, 244, 245, 255, 256, Integer.MIN_VALUE, Integer.MAX_VALUE
    };
    private static final int[] SIXTEENS_EDGES = {
        -1, 0, 55295, 55296, 56319, 56320, 57343, 57344, 65533, 65535, 65536, 1114111, 1114112,
        Integer.MIN_VALUE, Integer.MAX_VALUE
    };

    public static void main(String[] args) {
        everyScalar(true);
        everyScalar(false);
        for (int size = 0; size <= 4; size++) {
            everyRow(EIGHTS_EDGES, new int[size], 0, true);
            everyRow(SIXTEENS_EDGES, new int[size], 0, false);
        }
        everyRow(new int[] {65, 128, 144, 194, 225, 240}, new int[6], 0, true);
        check.end();
    }

    private static void everyScalar(boolean eights) {
        for (int v = 0; v <= 1114111; v++) {
            if (Model.isScalar(v)) {
                ScalarScribe x = Check.fed(Model.form(v, eights));
                int size = Model.form(v, eights).length;
                check.due("read " + v, eights ? x.fromEights() : x.fromSixteens(), 1);
                check.due("scalar " + v, x.point(0), v);
                check.due("write " + v, eights ? x.toEights() : x.toSixteens(), size);
                check.dueRow("units of " + v, Check.outputOf(x), Model.form(v, eights));
            }
        }
    }

    private static void everyRow(int[] edges, int[] row, int filled, boolean eights) {
        if (filled == row.length) {
            readRow(row, eights);
            return;
        }
        for (int unit : edges) {
            row[filled] = unit;
            everyRow(edges, row, filled + 1, eights);
        }
    }

    private static void readRow(int[] row, boolean eights) {
        ScalarScribe x = Check.fed(row);
        Model model = new Model();
        for (int unit : row) {
            model.feed(unit);
        }
        String what = (eights ? "eights " : "sixteens ") + Arrays.toString(row);
        check.due(what, eights ? x.fromEights() : x.fromSixteens(), model.from(eights));
        check.dueRow("list of " + what, Check.listOf(x), model.listed());
        check.due("mend " + what, x.mend(eights), model.mend(eights));
        check.dueRow("mended list of " + what, Check.listOf(x), model.listed());
    }
}
