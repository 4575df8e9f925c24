import java.math.BigInteger;
import java.nio.charset.StandardCharsets;
import java.util.ArrayList;
import java.util.Arrays;
import java.util.List;
import java.util.Set;
import java.util.TreeSet;

/**
 * The document once more, slowly and close to its words: what is well formed or good is looked up
 * among what all scalars are, and numbers are reckoned without a limit.
 */
final class Model {
    static final int NONE = -1;
    private static final BigInteger GREATEST = BigInteger.valueOf(2147483647);

    private static final long[] ALL_EIGHTS = allForms(true);
    private static final long[] ALL_SIXTEENS = allForms(false);
    private static final long[] EIGHTS_BEGINNINGS = allBeginnings(true);
    private static final long[] SIXTEENS_BEGINNINGS = allBeginnings(false);

    private List<Integer> input = new ArrayList<>();
    private List<Integer> list = new ArrayList<>();
    private List<Integer> output = new ArrayList<>();
    private List<Integer> remembered = new ArrayList<>();

    boolean feed(int unit) {
        return input.size() < 120 && input.add(unit);
    }

    int erase() {
        int had = input.size();
        input = new ArrayList<>();
        return had;
    }

    int from(boolean eights) {
        List<Integer> read = readWhole(input, eights);
        if (read == null) {
            return -1 - longestGood(input, eights);
        }
        list = read;
        return list.size();
    }

    int fromLetters() {
        List<Integer> read = new ArrayList<>();
        int fault = readLetters(input, read);
        if (fault < 0) {
            return fault;
        }
        list = read;
        return list.size();
    }

    int mend(boolean eights) {
        List<Integer> left = new ArrayList<>(input);
        list = new ArrayList<>();
        int mended = 0;
        while (!left.isEmpty()) {
            int taken = longestScalar(left, eights);
            if (taken > 0) {
                list.add(scalarOf(left.subList(0, taken), eights));
            } else {
                list.add(65533);
                mended++;
                taken = Math.max(1, longestGood(left, eights));
            }
            left = new ArrayList<>(left.subList(taken, left.size()));
        }
        return mended;
    }

    int to(boolean eights) {
        return takeOutput(rowOf(list, eights));
    }

    int toLetters() {
        return takeOutput(lettersOf(list));
    }

    private int takeOutput(List<Integer> units) {
        if (units.size() > 400) {
            return NONE;
        }
        output = units;
        return units.size();
    }

    int turn() {
        if (output.size() > 120) {
            return NONE;
        }
        input = new ArrayList<>(output);
        return input.size();
    }

    int count() {
        return list.size();
    }

    int point(int i) {
        return i >= 0 && i < list.size() ? list.get(i) : NONE;
    }

    int length() {
        return output.size();
    }

    int out(int i) {
        return i >= 0 && i < output.size() ? output.get(i) : NONE;
    }

    void keep() {
        remembered = new ArrayList<>(list);
    }

    int compare(boolean sixteens) {
        List<Integer> mine = sixteens ? rowOf(list, false) : list;
        List<Integer> other = sixteens ? rowOf(remembered, false) : remembered;
        return Integer.signum(Arrays.compare(toArray(mine), toArray(other)));
    }

    int[] listed() {
        return toArray(list);
    }

    static int[] toArray(List<Integer> row) {
        return row.stream().mapToInt(Integer::intValue).toArray();
    }

    static boolean isScalar(int v) {
        return v >= 0 && v <= 1114111 && (v < 55296 || v > 57343);
    }

    static int[] form(int v, boolean eights) {
        return eights ? eightsOf(v) : sixteensOf(v);
    }

    private static int[] eightsOf(int v) {
        if (v < 128) {
            return new int[] {v};
        }
        if (v < 2048) {
            return new int[] {192 + v / 64, 128 + v % 64};
        }
        if (v < 65536) {
            return new int[] {224 + v / 4096, 128 + v / 64 % 64, 128 + v % 64};
        }
        return new int[] {
            240 + v / 262144, 128 + v / 4096 % 64, 128 + v / 64 % 64, 128 + v % 64
        };
    }

    private static int[] sixteensOf(int v) {
        return v < 65536
                ? new int[] {v} : new int[] {55296 + (v - 65536) / 1024, 56320 + v % 1024};
    }

    static List<Integer> rowOf(List<Integer> scalars, boolean eights) {
        List<Integer> units = new ArrayList<>();
        for (int scalar : scalars) {
            for (int unit : form(scalar, eights)) {
                units.add(unit);
            }
        }
        return units;
    }

    /** What a few units are as one number, so that they can be looked up; -1 for any others. */
    private static long keyOf(List<Integer> units, boolean eights) {
        int most = eights ? 255 : 65535;
        long key = units.size();
        if (units.size() > 4) {
            return -1;
        }
        for (int unit : units) {
            if (unit < 0 || unit > most) {
                return -1;
            }
            key = key * (most + 1) + unit;
        }
        return eights || units.size() <= 2 ? key : -1;
    }

    private static long keyOf(int[] units, int size, boolean eights) {
        List<Integer> row = new ArrayList<>();
        for (int i = 0; i < size; i++) {
            row.add(units[i]);
        }
        return keyOf(row, eights);
    }

    private static long[] allForms(boolean eights) {
        long[] keys = new long[1114112 - 2048];
        int filled = 0;
        for (int v = 0; v <= 1114111; v++) {
            if (isScalar(v)) {
                int[] units = form(v, eights);
                keys[filled++] = keyOf(units, units.length, eights);
            }
        }
        Arrays.sort(keys);
        return keys;
    }

    private static long[] allBeginnings(boolean eights) {
        Set<Long> keys = new TreeSet<>();
        for (int v = 0; v <= 1114111; v++) {
            if (isScalar(v)) {
                int[] units = form(v, eights);
                for (int size = 0; size < units.length; size++) {
                    keys.add(keyOf(units, size, eights));
                }
            }
        }
        return keys.stream().mapToLong(Long::longValue).toArray();
    }

    private static boolean isForm(List<Integer> units, boolean eights) {
        return Arrays.binarySearch(eights ? ALL_EIGHTS : ALL_SIXTEENS, keyOf(units, eights)) >= 0;
    }

    private static boolean isBeginning(List<Integer> units, boolean eights) {
        long[] all = eights ? EIGHTS_BEGINNINGS : SIXTEENS_BEGINNINGS;
        return Arrays.binarySearch(all, keyOf(units, eights)) >= 0;
    }

    /** The Java library's own reading of units that are known to be one scalar. */
    private static int scalarOf(List<Integer> units, boolean eights) {
        if (eights) {
            byte[] bytes = new byte[units.size()];
            for (int i = 0; i < bytes.length; i++) {
                bytes[i] = units.get(i).byteValue();
            }
            return new String(bytes, StandardCharsets.UTF_8).codePointAt(0);
        }
        StringBuilder text = new StringBuilder();
        for (int unit : units) {
            text.append((char) unit);
        }
        return text.codePointAt(0);
    }

    private static int longestScalar(List<Integer> units, boolean eights) {
        int longest = 0;
        for (int size = 1; size <= Math.min(4, units.size()); size++) {
            if (isForm(units.subList(0, size), eights)) {
                longest = size;
            }
        }
        return longest;
    }

    /** whole[i] tells whether the first i units are well formed. */
    private static boolean[] wholeBeginnings(List<Integer> units, boolean eights) {
        boolean[] whole = new boolean[units.size() + 1];
        whole[0] = true;
        for (int end = 1; end <= units.size(); end++) {
            for (int start = Math.max(0, end - 4); start < end; start++) {
                whole[end] |= whole[start] && isForm(units.subList(start, end), eights);
            }
        }
        return whole;
    }

    static int longestGood(List<Integer> units, boolean eights) {
        boolean[] whole = wholeBeginnings(units, eights);
        int longest = 0;
        for (int end = 0; end <= units.size(); end++) {
            for (int start = Math.max(0, end - 4); start <= end; start++) {
                if (whole[start] && isBeginning(units.subList(start, end), eights)) {
                    longest = end;
                }
            }
        }
        return longest;
    }

    private static List<Integer> readWhole(List<Integer> units, boolean eights) {
        if (!wholeBeginnings(units, eights)[units.size()]) {
            return null;
        }
        List<Integer> scalars = new ArrayList<>();
        int at = 0;
        while (at < units.size()) {
            int taken = longestScalar(units.subList(at, units.size()), eights);
            scalars.add(scalarOf(units.subList(at, at + taken), eights));
            at += taken;
        }
        if (!rowOf(scalars, eights).equals(units)) {
            throw new IllegalStateException("the model misreads");
        }
        return scalars;
    }

    private static int threshold(int k, int bias) {
        int threshold = 36 * k - bias;
        return threshold < 1 ? 1 : threshold > 26 ? 26 : threshold;
    }

    private static int digit(int unit) {
        String small = "abcdefghijklmnopqrstuvwxyz0123456789";
        String large = "ABCDEFGHIJKLMNOPQRSTUVWXYZ0123456789";
        if (unit < 0 || unit > 127) {
            return -1;
        }
        return Math.max(small.indexOf(unit), large.indexOf(unit));
    }

    private static int newBias(long number, boolean first, int scalars) {
        long e = first ? number / 700 : number / 2;
        e = e + e / scalars;
        int c = 0;
        while (e > 455) {
            e = e / 35;
            c++;
        }
        return (int) (36 * c + 36 * e / (e + 38));
    }

    private static int readLetters(List<Integer> units, List<Integer> row) {
        int hyphen = units.lastIndexOf(45);
        int at = 0;
        if (hyphen > 0) {
            for (int unit : units.subList(0, hyphen)) {
                if (unit < 0 || unit > 127) {
                    return -3;
                }
                row.add(unit);
            }
            at = hyphen + 1;
        }
        BigInteger value = BigInteger.valueOf(128);
        BigInteger place = BigInteger.ZERO;
        int bias = 72;
        boolean first = true;
        while (at < units.size()) {
            BigInteger number = BigInteger.ZERO;
            BigInteger weight = BigInteger.ONE;
            for (int k = 1; ; k++) {
                int digit = at < units.size() ? digit(units.get(at)) : -1;
                at++;
                if (digit < 0) {
                    return -1;
                }
                number = number.add(weight.multiply(BigInteger.valueOf(digit)));
                if (number.compareTo(GREATEST) > 0) {
                    return -2;
                }
                if (digit < threshold(k, bias)) {
                    break;
                }
                weight = weight.multiply(BigInteger.valueOf(36 - threshold(k, bias)));
                if (weight.compareTo(GREATEST) > 0) {
                    return -2;
                }
            }
            BigInteger places = BigInteger.valueOf(row.size() + 1);
            place = place.add(number);
            if (place.compareTo(GREATEST) > 0) {
                return -2;
            }
            value = value.add(place.divide(places));
            if (value.compareTo(GREATEST) > 0) {
                return -2;
            }
            place = place.mod(places);
            if (!isScalar(value.intValueExact())) {
                return -4;
            }
            row.add(place.intValueExact(), value.intValueExact());
            place = place.add(BigInteger.ONE);
            bias = newBias(number.longValueExact(), first, row.size());
            first = false;
        }
        return 0;
    }

    /** The usual algorithm: it counts how often a reader's place moves on between two scalars. */
    static List<Integer> lettersOf(List<Integer> scalars) {
        List<Integer> units = new ArrayList<>();
        for (int scalar : scalars) {
            if (scalar < 128) {
                units.add(scalar);
            }
        }
        int plain = units.size();
        int told = plain;
        if (plain > 0) {
            units.add(45);
        }
        int value = 128;
        long moves = 0;
        int bias = 72;
        while (told < scalars.size()) {
            int next = Integer.MAX_VALUE;
            for (int scalar : scalars) {
                if (scalar >= value) {
                    next = Math.min(next, scalar);
                }
            }
            moves += (long) (next - value) * (told + 1);
            value = next;
            for (int scalar : scalars) {
                if (scalar < value) {
                    moves++;
                } else if (scalar == value) {
                    addNumber(units, moves, bias);
                    bias = newBias(moves, told == plain, told + 1);
                    moves = 0;
                    told++;
                }
            }
            moves++;
            value++;
        }
        return units;
    }

    private static void addNumber(List<Integer> units, long number, int bias) {
        String digits = "abcdefghijklmnopqrstuvwxyz0123456789";
        long left = number;
        for (int k = 1; ; k++) {
            int threshold = threshold(k, bias);
            if (left < threshold) {
                units.add((int) digits.charAt((int) left));
                return;
            }
            int most = 36 - threshold;
            units.add((int) digits.charAt((int) (threshold + (left - threshold) % most)));
            left = (left - threshold) / most;
        }
    }
}
