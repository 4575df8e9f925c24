/**
 * Reads rows of units as scalars by eights, by sixteens or by letters, mends and compares them, and
 * writes them again. All rows are made once, in the constructor: no call makes an object.
 */
public final class ScalarScribe {
    public static final int NONE = -1;

    private static final int INPUT_LIMIT = 120;
    private static final int LIST_LIMIT = 120;
    private static final int OUTPUT_LIMIT = 400;

    private static final int GREATEST_SCALAR = 1114111;
    private static final int FIRST_HIGH = 55296;
    private static final int FIRST_LOW = 56320;
    private static final int LAST_LOW = 57343;
    private static final int FIRST_PAIRED = 65536;
    private static final int MENDED = 65533;

    private final Row input;
    private final Row list;
    private final Row output;
    private final Row remembered;
    // A refused call must leave the list or the output as it was, so each is made aside first.
    private final Row newList;
    private final Row newOutput;
    private final Way eights;
    private final Way sixteens;
    private final Letters letters;

    public ScalarScribe() {
        input = new Row(INPUT_LIMIT);
        list = new Row(LIST_LIMIT);
        output = new Row(OUTPUT_LIMIT);
        remembered = new Row(LIST_LIMIT);
        newList = new Row(LIST_LIMIT);
        newOutput = new Row(OUTPUT_LIMIT);
        eights = new Eights();
        sixteens = new Sixteens();
        letters = new Letters();
    }

    public boolean feed(int unit) {
        return input.add(unit);
    }

    public int erase() {
        int had = input.size;
        input.clear();
        return had;
    }

    public int fromEights() {
        return readWellFormed(eights);
    }

    public int fromSixteens() {
        return readWellFormed(sixteens);
    }

    public int fromLetters() {
        int answer = letters.readAll(input, newList);
        if (answer >= 0) {
            list.become(newList);
        }
        return answer;
    }

    public int mend(boolean eights) {
        return readMending(eights ? this.eights : this.sixteens);
    }

    public int toEights() {
        return writeList(eights);
    }

    public int toSixteens() {
        return writeList(sixteens);
    }

    public int toLetters() {
        newOutput.clear();
        return letters.writeAll(list, newOutput) ? takeNewOutput() : NONE;
    }

    public int turn() {
        return input.become(output) ? input.size : NONE;
    }

    public int count() {
        return list.size;
    }

    public int point(int i) {
        return list.unitAt(i);
    }

    public int length() {
        return output.size;
    }

    public int out(int i) {
        return output.unitAt(i);
    }

    public void keep() {
        remembered.become(list);
    }

    public int compare(boolean sixteens) {
        int both = Math.min(list.size, remembered.size);
        for (int i = 0; i < both; i++) {
            int mine = list.unitAt(i);
            int other = remembered.unitAt(i);
            int order = sixteens ? orderBySixteens(mine, other) : orderOf(mine, other);
            if (order != 0) {
                return order;
            }
        }
        return orderOf(list.size, remembered.size);
    }

    private int readWellFormed(Way way) {
        newList.clear();
        int at = 0;
        while (at < input.size) {
            way.readOne(input, at);
            if (way.scalar == NONE) {
                return -1 - (at + way.taken);
            }
            newList.add(way.scalar);
            at += Math.max(1, way.taken);
        }
        list.become(newList);
        return list.size;
    }

    private int readMending(Way way) {
        list.clear();
        int mended = 0;
        int at = 0;
        while (at < input.size) {
            way.readOne(input, at);
            if (way.scalar == NONE) {
                list.add(MENDED);
                mended++;
            } else {
                list.add(way.scalar);
            }
            at += Math.max(1, way.taken);
        }
        return mended;
    }

    private int writeList(Way way) {
        newOutput.clear();
        for (int i = 0; i < list.size; i++) {
            if (!way.writeOne(list.unitAt(i), newOutput)) {
                return NONE;
            }
        }
        return takeNewOutput();
    }

    private int takeNewOutput() {
        output.become(newOutput);
        return output.size;
    }

    private static int orderOf(int a, int b) {
        if (a == b) {
            return 0;
        }
        return a < b ? -1 : 1;
    }

    private static int orderBySixteens(int a, int b) {
        int byFirst = orderOf(Sixteens.firstUnit(a), Sixteens.firstUnit(b));
        // Two scalars with the same first unit are the same or a pair each, and pairs that share
        // their high unit lie as their low ones do.
        return byFirst != 0 ? byFirst : orderOf(a, b);
    }

    private static boolean isScalar(int value) {
        boolean surrogate = value >= FIRST_HIGH && value <= LAST_LOW;
        return value >= 0 && value <= GREATEST_SCALAR && !surrogate;
    }

    /** A row of ints with a limit that it never grows beyond. */
    private static final class Row {
        private final int[] units;
        private int size;

        Row(int limit) {
            units = new int[limit];
        }

        void clear() {
            size = 0;
        }

        /** NONE is no unit in any of the three ways, so that readers may look behind the end. */
        int unitAt(int i) {
            return i >= 0 && i < size ? units[i] : NONE;
        }

        boolean add(int unit) {
            return insert(size, unit);
        }

        boolean insert(int place, int unit) {
            if (size >= units.length || place < 0 || place > size) {
                return false;
            }
            for (int i = size; i > place; i--) {
                units[i] = units[i - 1];
            }
            units[place] = unit;
            size++;
            return true;
        }

        /** False, and nothing is changed, when the other is longer than this row may be. */
        boolean become(Row other) {
            if (other.size > units.length) {
                return false;
            }
            System.arraycopy(other.units, 0, units, 0, other.size);
            size = other.size;
            return true;
        }
    }

    /** A way in which each scalar is some units of its own, whatever stands around it. */
    private abstract static class Way {
        /** The scalar that the last reading found, or NONE. */
        int scalar;
        /** How many units that scalar is; without one, how many the longest good beginning has. */
        int taken;

        abstract void readOne(Row from, int at);

        /** False when the row has no place for all units of the scalar. */
        abstract boolean writeOne(int value, Row to);
    }

    private static final class Eights extends Way {
        private static final int FIRST_FURTHER = 128;
        private static final int LAST_FURTHER = 191;

        void readOne(Row from, int at) {
            int lead = from.unitAt(at);
            int size = sizeBehind(lead);
            scalar = NONE;
            taken = Math.min(1, size);
            int value = leadPart(lead, size);
            for (int k = 1; k < size; k++) {
                int unit = from.unitAt(at + k);
                boolean fits = k == 1 ? fitsSecond(lead, unit) : fitsFurther(unit);
                if (!fits) {
                    return;
                }
                value = value * 64 + unit - FIRST_FURTHER;
                taken++;
            }
            if (size > 0) {
                scalar = value;
            }
        }

        /** 192 and 193 would tell what one unit tells, 245 and more what is above all scalars. */
        private static int sizeBehind(int lead) {
            if (lead < 0 || lead > 244) {
                return 0;
            }
            if (lead < 128) {
                return 1;
            }
            if (lead < 194) {
                return 0;
            }
            if (lead < 224) {
                return 2;
            }
            return lead < 240 ? 3 : 4;
        }

        private static int leadPart(int lead, int size) {
            switch (size) {
                case 2:
                    return lead - 192;
                case 3:
                    return lead - 224;
                case 4:
                    return lead - 240;
                default:
                    return lead;
            }
        }

        /** The second unit alone decides on too long a form, on surrogates and on the upper end. */
        private static boolean fitsSecond(int lead, int unit) {
            switch (lead) {
                case 224:
                    return unit >= 160 && unit <= LAST_FURTHER;
                case 237:
                    return unit >= FIRST_FURTHER && unit <= 159;
                case 240:
                    return unit >= 144 && unit <= LAST_FURTHER;
                case 244:
                    return unit >= FIRST_FURTHER && unit <= 143;
                default:
                    return fitsFurther(unit);
            }
        }

        private static boolean fitsFurther(int unit) {
            return unit >= FIRST_FURTHER && unit <= LAST_FURTHER;
        }

        boolean writeOne(int value, Row to) {
            if (value < 128) {
                return to.add(value);
            }
            if (value < 2048) {
                return to.add(192 + value / 64) && writeFurther(value, to);
            }
            if (value < FIRST_PAIRED) {
                return to.add(224 + value / 4096)
                        && writeFurther(value / 64, to)
                        && writeFurther(value, to);
            }
            return to.add(240 + value / 262144)
                    && writeFurther(value / 4096, to)
                    && writeFurther(value / 64, to)
                    && writeFurther(value, to);
        }

        private static boolean writeFurther(int value, Row to) {
            return to.add(FIRST_FURTHER + value % 64);
        }
    }

    private static final class Sixteens extends Way {
        void readOne(Row from, int at) {
            int first = from.unitAt(at);
            scalar = NONE;
            taken = 0;
            if (first >= FIRST_HIGH && first < FIRST_LOW) {
                taken = 1;
                readLow(first, from.unitAt(at + 1));
            } else if (first < FIRST_PAIRED && isScalar(first)) {
                taken = 1;
                scalar = first;
            }
        }

        private void readLow(int high, int low) {
            if (low >= FIRST_LOW && low <= LAST_LOW) {
                taken = 2;
                scalar = FIRST_PAIRED + (high - FIRST_HIGH) * 1024 + (low - FIRST_LOW);
            }
        }

        boolean writeOne(int value, Row to) {
            boolean written = to.add(firstUnit(value));
            if (value < FIRST_PAIRED) {
                return written;
            }
            return written && to.add(FIRST_LOW + value % 1024);
        }

        static int firstUnit(int value) {
            return value < FIRST_PAIRED ? value : FIRST_HIGH + (value - FIRST_PAIRED) / 1024;
        }
    }

    /** Reading and writing by letters; both go through the same values, places and biases. */
    private static final class Letters {
        private static final int HYPHEN = 45;
        private static final int FIRST_OTHER = 128;
        private static final int BASE = 36;
        private static final int FIRST_BIAS = 72;

        private static final int BAD_DIGIT = -1;
        private static final int OVERFLOW = -2;
        private static final int BAD_PLAIN = -3;
        private static final int BAD_VALUE = -4;

        private int at;
        private int value;
        private int place;
        private int bias;
        private boolean first;

        private void begin() {
            value = FIRST_OTHER;
            place = 0;
            bias = FIRST_BIAS;
            first = true;
        }

        /** How many scalars there are in the new list then, or why there are none, below 0. */
        int readAll(Row from, Row to) {
            begin();
            to.clear();
            int hyphen = lastHyphen(from);
            for (int i = 0; i < hyphen; i++) {
                int unit = from.unitAt(i);
                if (unit < 0 || unit >= FIRST_OTHER) {
                    return BAD_PLAIN;
                }
                to.add(unit);
            }
            at = hyphen == 0 ? 0 : hyphen + 1;
            for (int numbers = 0; numbers < from.size && at < from.size; numbers++) {
                int number = readNumber(from);
                int answer = number < 0 ? number : putIn(number, to);
                if (answer < 0) {
                    return answer;
                }
            }
            return to.size;
        }

        /** 0 when there is none: a hyphen that is the first unit is not one that ends anything. */
        private static int lastHyphen(Row from) {
            for (int i = from.size - 1; i > 0; i--) {
                if (from.unitAt(i) == HYPHEN) {
                    return i;
                }
            }
            return 0;
        }

        private int readNumber(Row from) {
            long sum = 0;
            long weight = 1;
            for (int k = 1; k <= from.size; k++) {
                int digit = digitOf(from.unitAt(at));
                if (digit == NONE) {
                    return BAD_DIGIT;
                }
                at++;
                sum += digit * weight;
                if (sum > Integer.MAX_VALUE) {
                    return OVERFLOW;
                }
                int threshold = thresholdOf(k);
                if (digit < threshold) {
                    return (int) sum;
                }
                weight *= BASE - threshold;
                if (weight > Integer.MAX_VALUE) {
                    return OVERFLOW;
                }
            }
            return BAD_DIGIT;
        }

        /** 0, or why the number gives no scalar. */
        private int putIn(int number, Row to) {
            int places = to.size + 1;
            long reached = (long) place + number;
            long newValue = value + reached / places;
            if (reached > Integer.MAX_VALUE || newValue > Integer.MAX_VALUE) {
                return OVERFLOW;
            }
            if (!isScalar((int) newValue)) {
                return BAD_VALUE;
            }
            int newPlace = (int) (reached % places);
            to.insert(newPlace, (int) newValue);
            goBehind((int) newValue, newPlace, number, places);
            return 0;
        }

        private void goBehind(int newValue, int newPlace, int number, int scalars) {
            value = newValue;
            place = newPlace + 1;
            bias = biasBehind(number, scalars);
            first = false;
        }

        private int biasBehind(int number, int scalars) {
            int e = first ? number / 700 : number / 2;
            e += e / scalars;
            int rounds = 0;
            while (e > 455) {
                e /= 35;
                rounds++;
            }
            return BASE * rounds + BASE * e / (e + 38);
        }

        private int thresholdOf(int k) {
            return Math.max(1, Math.min(26, BASE * k - bias));
        }

        private static int digitOf(int unit) {
            if (unit >= 'a' && unit <= 'z') {
                return unit - 'a';
            }
            if (unit >= 'A' && unit <= 'Z') {
                return unit - 'A';
            }
            return unit >= '0' && unit <= '9' ? unit - '0' + 26 : NONE;
        }

        private static int unitOf(int digit) {
            return digit < 26 ? 'a' + digit : '0' + digit - 26;
        }

        /** False when the row has no place for all of it. */
        boolean writeAll(Row from, Row to) {
            begin();
            int next = NONE;
            for (int told = writePlain(from, to); told < from.size; told++) {
                next = nextToTell(from, next);
                if (!tell(from, next, told + 1, to)) {
                    return false;
                }
            }
            return true;
        }

        /** How many scalars are told as they are; a whole list of such leaves the output room. */
        private static int writePlain(Row from, Row to) {
            int plain = 0;
            for (int i = 0; i < from.size; i++) {
                int scalar = from.unitAt(i);
                if (scalar < FIRST_OTHER) {
                    to.add(scalar);
                    plain++;
                }
            }
            if (plain > 0) {
                to.add(HYPHEN);
            }
            return plain;
        }

        /** Where the least scalar stands that comes, by value and then by place, behind the last. */
        private int nextToTell(Row from, int last) {
            int best = NONE;
            for (int i = 0; i < from.size; i++) {
                int scalar = from.unitAt(i);
                boolean untold = scalar > value || scalar == value && i > last;
                if (untold && (best == NONE || scalar < from.unitAt(best))) {
                    best = i;
                }
            }
            return best;
        }

        private boolean tell(Row from, int index, int scalars, Row to) {
            int newValue = from.unitAt(index);
            int newPlace = toldBefore(from, index);
            int number = (newValue - value) * scalars + newPlace - place;
            boolean written = writeNumber(number, to);
            goBehind(newValue, newPlace, number, scalars);
            return written;
        }

        /** The reader has only what is told by then: the lesser scalars and the same ones before. */
        private static int toldBefore(Row from, int index) {
            int told = 0;
            for (int i = 0; i < index; i++) {
                if (from.unitAt(i) <= from.unitAt(index)) {
                    told++;
                }
            }
            return told;
        }

        private boolean writeNumber(int number, Row to) {
            int left = number;
            for (int k = 1; k <= OUTPUT_LIMIT; k++) {
                int threshold = thresholdOf(k);
                if (left < threshold) {
                    return to.add(unitOf(left));
                }
                int choices = BASE - threshold;
                if (!to.add(unitOf(threshold + (left - threshold) % choices))) {
                    return false;
                }
                left = (left - threshold) / choices;
            }
            return false;
        }
    }
}
