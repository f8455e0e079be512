/**
 * Weights of a network put into bytes and taken out again.
 *
 * <p>All rows are made once, at their greatest length, so that no call makes anything but the
 * exception that it throws.
 */
public final class WeightFile {
    public static final int NONE = -1;

    private static final int MOST_P = 64;
    private static final int MOST_PARAMETERS = 4096;
    private static final int MOST_NUMBERS = 2 * MOST_PARAMETERS;
    private static final int MOST_STEPS = 2000000000;
    private static final int MOST_ON_TAPE = 90000;

    private static final byte[] BEGINNING = {69, 84, 49, 10};
    private static final int STEPS_AT = 4;
    private static final int MANY_AT = 8;
    private static final int P_AT = 12;
    private static final int NUMBERS_AT = 13;
    private static final int CHECK_BYTES = 4;
    private static final int MOST_WIDTH = (MOST_P + 23) / 8;
    private static final int MOST_PRINTED = NUMBERS_AT + MOST_NUMBERS * MOST_WIDTH + CHECK_BYTES;

    private static final int CHECK_PATTERN = 0xEDB88320;

    // Number n is weight n, or from many on velocity n - many: the order of the set's bytes.
    private final int[] highs = new int[MOST_NUMBERS];
    private final long[] lows = new long[MOST_NUMBERS];
    private int many = 0;
    private int p = 0;
    private int steps = 0;

    private final byte[] print = new byte[MOST_PRINTED];
    private int printLength = 0;

    private final byte[] tape = new byte[MOST_ON_TAPE];
    private int tapeLength = 0;

    private int refusedAt = NONE;

    // What eight shifts of the check do to each lowest byte, so that a byte costs one step, not eight.
    private final int[] eightShifts = new int[256];

    public WeightFile() {
        for (int lowest = 0; lowest < 256; lowest++) {
            eightShifts[lowest] = shiftedEightTimes(lowest);
        }
    }

    public void take(int p, int many) throws IllegalArgumentException {
        if (p < 0 || p > MOST_P || many < 0 || many > MOST_PARAMETERS) {
            throw new IllegalArgumentException("p is not 0 .. 64, or many not 0 .. 4096");
        }
        this.p = p;
        this.many = many;
        steps = 0;
        for (int n = 0; n < 2 * many; n++) {
            highs[n] = 0;
            lows[n] = 0;
        }
    }

    public void put(int which, int i, int high, long low)
            throws IndexOutOfBoundsException, IllegalArgumentException {
        int n = numberOf(which, i);
        if (n == NONE) {
            throw new IndexOutOfBoundsException("no such weight or velocity");
        }
        if (!mayBeNumber(high, low)) {
            throw new IllegalArgumentException("the number is not strictly between -2^(15 + p) and 2^(15 + p)");
        }
        highs[n] = high;
        lows[n] = low;
    }

    public int limb(int which, int i, int k) throws IndexOutOfBoundsException {
        int n = numberOf(which, i);
        if (n == NONE || k < 0 || k > 2) {
            throw new IndexOutOfBoundsException("no such weight, velocity or limb");
        }
        if (k == 2) {
            return highs[n];
        }
        return (int) (lows[n] >> (32 * k));
    }

    public int count(int n) throws IllegalArgumentException {
        if (!mayBeSteps(n)) {
            throw new IllegalArgumentException("the steps are not 0 .. 2000000000");
        }
        int before = steps;
        steps = n;
        return before;
    }

    public int save() {
        System.arraycopy(BEGINNING, 0, print, 0, BEGINNING.length);
        printFour(STEPS_AT, steps);
        printFour(MANY_AT, many);
        print[P_AT] = (byte) p;
        int width = width();
        int at = NUMBERS_AT;
        for (int n = 0; n < 2 * many; n++) {
            printNumber(at, width, highs[n], lows[n]);
            at += width;
        }
        printFour(at, checkOf(print, at));
        printLength = at + CHECK_BYTES;
        return printLength;
    }

    public int printed(int i) throws IndexOutOfBoundsException {
        if (i < 0 || i >= printLength) {
            throw new IndexOutOfBoundsException("no such byte is printed");
        }
        return print[i] & 255;
    }

    public int feed(long v) throws IllegalStateException {
        if (tapeLength > MOST_ON_TAPE - 8) {
            throw new IllegalStateException("the tape would have more than 90000 bytes");
        }
        for (int k = 0; k < 8; k++) {
            tape[tapeLength + k] = (byte) (v >> (56 - 8 * k));
        }
        tapeLength += 8;
        return tapeLength;
    }

    public void end(int n) throws IllegalArgumentException {
        if (n < 0 || n > tapeLength) {
            throw new IllegalArgumentException("the tape has not so many bytes, or n is below 0");
        }
        tapeLength = n;
    }

    public int copy() {
        System.arraycopy(print, 0, tape, 0, printLength);
        tapeLength = printLength;
        return tapeLength;
    }

    public int poke(int i, int b) throws IndexOutOfBoundsException {
        if (i < 0 || i >= tapeLength) {
            throw new IndexOutOfBoundsException("no such byte is on the tape");
        }
        int before = tape[i] & 255;
        tape[i] = (byte) b;
        return before;
    }

    public int restore() throws IllegalArgumentException {
        refusedAt = firstWrongPlace();
        tapeLength = 0;
        if (refusedAt != NONE) {
            throw new IllegalArgumentException("the tape has not the bytes of such a set");
        }
        takeNumbersFromTape();
        steps = fourAt(STEPS_AT);
        return steps;
    }

    public int place() {
        return refusedAt;
    }

    public int told(int what) {
        switch (what) {
            case 0:
                return many;
            case 1:
                return steps;
            case 2:
                return p;
            case 3:
                return tapeLength;
            default:
                return NONE;
        }
    }

    private int numberOf(int which, int i) {
        if (which < 0 || which > 1 || i < 0 || i >= many) {
            return NONE;
        }
        return which * many + i;
    }

    private boolean mayBeNumber(int high, long low) {
        int bits = 15 + p;
        // The lowest number of bits + 1 bits, -2^bits, fits into them but is not strictly between.
        if (bits < 64) {
            boolean fits = (high == 0 || high == -1) && low >> bits == high;
            return fits && low != -1L << bits;
        }
        int above = high >> (bits - 64);
        boolean fits = above == 0 || above == -1;
        return fits && !(high == -1 << (bits - 64) && low == 0);
    }

    private static boolean mayBeSteps(int n) {
        return n >= 0 && n <= MOST_STEPS;
    }

    private int width() {
        return (p + 23) / 8;
    }

    private int lengthOfSet() {
        return NUMBERS_AT + 2 * many * width() + CHECK_BYTES;
    }

    private void printFour(int at, int v) {
        for (int k = 0; k < 4; k++) {
            print[at + k] = (byte) (v >> (24 - 8 * k));
        }
    }

    private void printNumber(int at, int width, int high, long low) {
        for (int k = 0; k < width; k++) {
            int shift = 8 * (width - 1 - k);
            print[at + k] = shift < 64 ? (byte) (low >> shift) : (byte) (high >> (shift - 64));
        }
    }

    private int firstWrongPlace() {
        // Only behind the test of the length do all other places lie on the tape.
        if (tapeLength != lengthOfSet()) {
            return tapeLength;
        }
        int place = wrongPlaceInHead();
        if (place == NONE) {
            place = wrongPlaceInNumbers();
        }
        if (place == NONE) {
            place = wrongPlaceInCheck();
        }
        return place;
    }

    private int wrongPlaceInHead() {
        for (int i = 0; i < BEGINNING.length; i++) {
            if (tape[i] != BEGINNING[i]) {
                return i;
            }
        }
        if (!mayBeSteps(fourAt(STEPS_AT))) {
            return STEPS_AT;
        }
        if (fourAt(MANY_AT) != many) {
            return MANY_AT;
        }
        return tape[P_AT] == p ? NONE : P_AT;
    }

    private int wrongPlaceInNumbers() {
        int width = width();
        int at = NUMBERS_AT;
        for (int n = 0; n < 2 * many; n++) {
            if (!mayBeNumber(highAt(at, width), lowAt(at, width))) {
                return at;
            }
            at += width;
        }
        return NONE;
    }

    private int wrongPlaceInCheck() {
        int at = tapeLength - CHECK_BYTES;
        return fourAt(at) == checkOf(tape, at) ? NONE : at;
    }

    private void takeNumbersFromTape() {
        int width = width();
        int at = NUMBERS_AT;
        for (int n = 0; n < 2 * many; n++) {
            highs[n] = highAt(at, width);
            lows[n] = lowAt(at, width);
            at += width;
        }
    }

    private int fourAt(int at) {
        int v = 0;
        for (int k = 0; k < 4; k++) {
            v = v << 8 | tape[at + k] & 255;
        }
        return v;
    }

    // Both halves start as copies of the sign, which the bytes then push up.
    private int highAt(int at, int width) {
        int high = tape[at] < 0 ? -1 : 0;
        for (int k = 0; k < width - 8; k++) {
            high = high << 8 | tape[at + k] & 255;
        }
        return high;
    }

    private long lowAt(int at, int width) {
        long low = tape[at] < 0 ? -1L : 0L;
        for (int k = 0; k < width; k++) {
            low = low << 8 | tape[at + k] & 255;
        }
        return low;
    }

    private int checkOf(byte[] row, int length) {
        int c = -1;
        for (int i = 0; i < length; i++) {
            c = c >>> 8 ^ eightShifts[(c ^ row[i]) & 255];
        }
        return ~c;
    }

    private static int shiftedEightTimes(int lowest) {
        int c = lowest;
        for (int k = 0; k < 8; k++) {
            c = (c & 1) == 1 ? c >>> 1 ^ CHECK_PATTERN : c >>> 1;
        }
        return c;
    }
}
