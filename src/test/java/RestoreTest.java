import java.math.BigInteger;
import java.util.Arrays;
import java.util.EnumMap;
import java.util.Map;

/**
 * Promise 12 at its boundaries: the last tape that is taken and the first that is refused, for each
 * reason by itself with the check of the whole mended, and for all of them together. After each
 * refusal all but place() and the tape is as before.
 */
public final class RestoreTest {
    private static final Class<IllegalArgumentException> ARGUMENT = IllegalArgumentException.class;

    private static final int MOST_STEPS = 2000000000;
    private static final States[] WITH_A_SET = {States.EMPTY, States.BUSY, States.FULL};

    private static final Map<States, String> BEFORE = new EnumMap<>(States.class);

    public static void main(String[] args) {
        for (States state : States.values()) {
            BEFORE.put(state, Shown.allButPlaceAndTape(state::make));
        }
        for (States state : WITH_A_SET) {
            takesTheTape(state);
            tooShort(state);
            tooLong(state);
            anotherBeginning(state);
            stepsThatMayNotBe(state);
            anotherNumberOfParameters(state);
            anotherP(state);
            numberThatMayNotBeSo(state);
            anotherCheck(state);
        }
        emptyTape();
        newObject();
        everyShortLength();
        everyLongLength();
        stepsThatMayBe();
        numbersOfEveryP();
        parametersBeforeP();
        firstOfSeveralNumbers();
        firstOfSeveralReasons();
        Due.finish();
    }

    // Takes the tape, which is empty then: the set has its weights, velocities and steps. Answers the steps.
    private static void takesTheTape(States state) {
        Shown.Script restored = x -> {
            state.make(x);
            x.copy();
            Due.same(state + ": the steps", x.restore(), stepsOf(state.printed()));
        };
        WeightFile x = Shown.made(restored);
        Due.same(state + ": the steps", x.told(1), stepsOf(state.printed()));
        Due.same(state + ": the tape is empty", x.told(3), 0);
        Due.same(state + ": not refused", x.place(), -1);
        Due.same(state + ": the parameters stay", x.told(0), state.many);
        Due.same(state + ": p stays", x.told(2), state.p);
        String printed = Shown.printed(state.printed());
        Due.same(state + ": what is printed stays", Shown.printed(restored), printed);
        Due.same(state + ": the set is that of the tape", Shown.printed(y -> {
            restored.run(y);
            y.save();
        }), printed);
    }

    // too short or long (its length)
    private static void tooShort(States state) {
        byte[] right = state.printed();
        for (int length : new int[] {0, 1, 8, 12, 13, right.length - 4, right.length - 1}) {
            refused(state, "too short, " + length, length, x -> {
                x.copy();
                x.end(length);
            });
        }
    }

    private static void tooLong(States state) {
        int length = state.printed().length;
        for (int more : new int[] {1, 4, 8}) {
            refused(state, "too long, " + (length + more), length + more, x -> {
                x.copy();
                x.feed(0);
                x.end(length + more);
            });
        }
    }

    private static void emptyTape() {
        for (States state : States.values()) {
            refused(state, "an empty tape", 0, x -> x.end(0));
        }
    }

    // A new object has a set, too: of 17 bytes.
    private static void newObject() {
        byte[] right = SetBytes.of(0, MOST_STEPS);
        WeightFile x = new WeightFile();
        SetBytes.lay(x, right);
        Due.same("a new object takes an empty set", x.restore(), MOST_STEPS);
        refused(States.NEW, "16 bytes", 16, y -> SetBytes.lay(y, Arrays.copyOf(right, 16)));
        refused(States.NEW, "18 bytes", 18, y -> SetBytes.lay(y, Arrays.copyOf(right, 18)));
        refused(States.NEW, "a parameter", 21, y -> SetBytes.lay(y, SetBytes.of(0, 0, SetBytes.zeros(1))));
        refused(States.NEW, "p = 1", 12, y -> SetBytes.lay(y, SetBytes.of(1, 0)));
    }

    private static void everyShortLength() {
        byte[] right = States.BUSY.printed();
        for (int length = 0; length < right.length; length++) {
            byte[] cut = Arrays.copyOf(right, length);
            refused(States.BUSY, "its first " + length, length, x -> SetBytes.lay(x, cut));
        }
    }

    private static void everyLongLength() {
        byte[] right = States.BUSY.printed();
        for (int length = right.length + 1; length < right.length + 40; length++) {
            byte[] more = Arrays.copyOf(right, length);
            refused(States.BUSY, "it and more, " + length, length, x -> SetBytes.lay(x, more));
            // Right at both its ends.
            byte[] longer = more.clone();
            SetBytes.mendCheck(longer);
            refused(States.BUSY, "longer, with its check, " + length, length, x -> SetBytes.lay(x, longer));
        }
    }

    // another beginning (the first byte that differs)
    private static void anotherBeginning(States state) {
        byte[] right = state.printed();
        for (int differ = 1; differ < 16; differ++) {
            byte[] wrong = right.clone();
            for (int i = 0; i < 4; i++) {
                if ((differ >> i & 1) == 1) {
                    wrong[i] ^= (byte) 128;
                }
            }
            SetBytes.mendCheck(wrong);
            refused(state, "beginning, " + differ, Integer.numberOfTrailingZeros(differ), wrong);
        }
        for (int i = 0; i < 4; i++) {
            refused(state, "beginning, one more", i, SetBytes.with(right, i, 1, right[i] + 1));
            refused(state, "beginning, one less", i, SetBytes.with(right, i, 1, right[i] - 1));
        }
    }

    // steps that may not be (4)
    private static void stepsThatMayNotBe(States state) {
        for (long steps : new long[] {MOST_STEPS + 1, Integer.MAX_VALUE, 1L << 31, (1L << 32) - 1}) {
            refused(state, "steps " + steps, 4, SetBytes.with(state.printed(), SetBytes.STEPS_AT, 4, steps));
        }
    }

    private static void stepsThatMayBe() {
        for (States state : WITH_A_SET) {
            for (int steps : new int[] {0, 1, 255, 256, 65536, 1 << 24, MOST_STEPS - 1, MOST_STEPS}) {
                byte[] right = SetBytes.with(state.printed(), SetBytes.STEPS_AT, 4, steps);
                WeightFile x = Shown.made(state::make);
                SetBytes.layOver(x, state.printed(), right);
                Due.same(state + ": steps taken", x.restore(), steps);
                Due.same(state + ": steps told", x.told(1), steps);
                Due.same(state + ": not refused", x.place(), -1);
            }
        }
    }

    // another number of parameters (8)
    private static void anotherNumberOfParameters(States state) {
        long many = state.many;
        for (long other : new long[] {many - 1, many + 1, many ^ 1L << 8, many ^ 1L << 16, many ^ 1L << 31, 4097, -1}) {
            refused(state, "parameters " + other, 8, SetBytes.with(state.printed(), SetBytes.MANY_AT, 4, other));
        }
    }

    // another p (12)
    private static void anotherP(States state) {
        for (int other = 0; other < 256; other++) {
            boolean all = state != States.FULL || Math.abs(other - state.p) == 1 || other == state.p + 128;
            if (other != state.p && all) {
                refused(state, "p " + other, 12, SetBytes.with(state.printed(), SetBytes.P_AT, 1, other));
            }
        }
    }

    // a weight or velocity that may not be so (its first byte)
    private static void numberThatMayNotBeSo(States state) {
        int width = SetBytes.width(state.p);
        for (int n : new int[] {0, state.many - 1, state.many, 2 * state.many - 1}) {
            if (state.many > 0) {
                int at = SetBytes.NUMBERS_AT + n * width;
                byte[] wrong = SetBytes.with(state.printed(), at, width, Numbers.limit(state.p).negate());
                refused(state, "number " + n, at, wrong);
            }
        }
    }

    // another check (its first byte)
    private static void anotherCheck(States state) {
        byte[] right = state.printed();
        int at = right.length - 4;
        for (int bit = 0; bit < 32; bit += state == States.FULL ? 31 : 1) {
            byte[] wrong = right.clone();
            wrong[at + bit / 8] ^= (byte) (1 << bit % 8);
            refused(state, "bit " + bit + " of the check", at, wrong);
        }
        byte[] wrong = right.clone();
        wrong[SetBytes.STEPS_AT] ^= 1;
        refused(state, "other steps than the check's", at, wrong);
        if (state.many > 0) {
            byte[] other = right.clone();
            other[at - 1] ^= 2;
            refused(state, "another last byte than the check's", at, other);
        }
    }

    /** The last numbers that may be and the first that may not, as weights and as velocities. */
    private static void numbersOfEveryP() {
        for (int p = 0; p <= 64; p++) {
            int width = SetBytes.width(p);
            BigInteger limit = Numbers.limit(p);
            BigInteger beyond = BigInteger.ONE.shiftLeft(8 * width - 1);
            for (int n = 0; n < 4; n++) {
                numberTaken(p, n, Numbers.most(p));
                numberTaken(p, n, Numbers.most(p).negate());
                numberTaken(p, n, BigInteger.ONE.negate());
                numberRefused(p, n, limit.negate());
                numberRefused(p, n, beyond.negate());
                // Where the bytes have no room for it, it would be another number.
                if (limit.compareTo(beyond) < 0) {
                    numberRefused(p, n, limit);
                    numberRefused(p, n, limit.add(BigInteger.ONE));
                    numberRefused(p, n, limit.negate().subtract(BigInteger.ONE));
                    numberRefused(p, n, beyond.subtract(BigInteger.ONE));
                }
            }
        }
    }

    private static void numberTaken(int p, int n, BigInteger v) {
        BigInteger[] numbers = SetBytes.zeros(2);
        numbers[n] = v;
        WeightFile x = Shown.made(y -> twoParameters(y, p));
        SetBytes.lay(x, SetBytes.of(p, 11, numbers));
        Due.same("a number that may be, p = " + p, x.restore(), 11);
        Due.same("not refused", x.place(), -1);
        for (int k = 0; k < 4; k++) {
            Due.same("number " + k + ", p = " + p, Numbers.at(x, k / 2, k % 2), numbers[k]);
        }
    }

    private static void numberRefused(int p, int n, BigInteger v) {
        BigInteger[] numbers = SetBytes.zeros(2);
        numbers[n] = v;
        WeightFile x = Shown.made(y -> twoParameters(y, p));
        SetBytes.lay(x, SetBytes.of(p, 11, numbers));
        Due.thrown("number " + v + ", p = " + p, ARGUMENT, () -> x.restore());
        Due.same("its place, p = " + p, x.place(), SetBytes.NUMBERS_AT + n * SetBytes.width(p));
        Due.same("the tape is empty", x.told(3), 0);
        Due.same("the steps stay", x.told(1), 77);
        for (int k = 0; k < 4; k++) {
            Due.same("number " + k + " stays, p = " + p, Numbers.at(x, k / 2, k % 2), BigInteger.valueOf(k - 2));
        }
    }

    private static void twoParameters(WeightFile x, int p) {
        x.take(p, 2);
        x.count(77);
        for (int k = 0; k < 4; k++) {
            Numbers.put(x, k / 2, k % 2, BigInteger.valueOf(k - 2));
        }
    }

    /** Three numbers of two bytes are as long as two of three bytes: only what the bytes say differs. */
    private static void parametersBeforeP() {
        WeightFile x = Shown.made(y -> y.take(1, 2));
        SetBytes.lay(x, SetBytes.of(0, 0, SetBytes.zeros(3)));
        Due.thrown("3 parameters, p = 0, to 2, p = 1", ARGUMENT, () -> x.restore());
        Due.same("3 parameters, p = 0, to 2, p = 1", x.place(), 8);
        x.take(0, 3);
        SetBytes.lay(x, SetBytes.of(1, 0, SetBytes.zeros(2)));
        Due.thrown("2 parameters, p = 1, to 3, p = 0", ARGUMENT, () -> x.restore());
        Due.same("2 parameters, p = 1, to 3, p = 0", x.place(), 8);
        Due.same("the set stays", x.told(0), 3);
        Due.same("the set stays", x.told(2), 0);
        x.take(8, 2);
        SetBytes.lay(x, SetBytes.of(1, 0, SetBytes.zeros(2)));
        Due.thrown("p = 1 to p = 8", ARGUMENT, () -> x.restore());
        Due.same("p = 1 to p = 8", x.place(), 12);
        x.take(7, 0);
        SetBytes.lay(x, SetBytes.of(64, 0));
        Due.thrown("p = 64 to p = 7, no parameters", ARGUMENT, () -> x.restore());
        Due.same("p = 64 to p = 7, no parameters", x.place(), 12);
    }

    private static void firstOfSeveralNumbers() {
        for (int wrongs = 1; wrongs < 16; wrongs++) {
            byte[] wrong = States.BUSY.printed();
            int width = SetBytes.width(50);
            for (int n = 0; n < 4; n++) {
                if ((wrongs >> n & 1) == 1) {
                    SetBytes.write(wrong, SetBytes.NUMBERS_AT + n * width, width, Numbers.limit(50));
                }
            }
            SetBytes.mendCheck(wrong);
            int first = SetBytes.NUMBERS_AT + Integer.numberOfTrailingZeros(wrongs) * width;
            refused(States.BUSY, "wrong numbers " + wrongs, first, wrong);
        }
    }

    // in this order where several fit
    private static void firstOfSeveralReasons() {
        int check = States.BUSY.printed().length - 4;
        int[] places = {0, 4, 8, 12, 22, check};
        for (int wrongs = 1; wrongs < 64; wrongs++) {
            byte[] wrong = withWrongs(wrongs);
            int place = places[Integer.numberOfTrailingZeros(wrongs)];
            refused(States.BUSY, "wrong in " + wrongs, place, wrong);
            byte[] shorter = Arrays.copyOf(wrong, wrong.length - 1);
            refused(States.BUSY, "too short, wrong in " + wrongs, shorter.length, x -> SetBytes.lay(x, shorter));
            byte[] longer = Arrays.copyOf(wrong, wrong.length + 1);
            refused(States.BUSY, "too long, wrong in " + wrongs, longer.length, x -> SetBytes.lay(x, longer));
        }
    }

    /** Bit 0: the beginning, 1 the steps, 2 the parameters, 3 p, 4 weight 1, 5 the check. */
    private static byte[] withWrongs(int wrongs) {
        byte[] row = States.BUSY.printed();
        int[] at = {0, 4, 8, 12, 22};
        for (int k = 0; k < at.length; k++) {
            if ((wrongs >> k & 1) == 1) {
                row[at[k]] ^= (byte) 128;
            }
        }
        SetBytes.mendCheck(row);
        if ((wrongs >> 5 & 1) == 1) {
            row[row.length - 1] ^= 1;
        }
        return row;
    }

    private static int stepsOf(byte[] row) {
        return new BigInteger(Arrays.copyOfRange(row, SetBytes.STEPS_AT, SetBytes.MANY_AT)).intValue();
    }

    private static void refused(States state, String what, int place, byte[] wrong) {
        byte[] printed = state.printed();
        refused(state, what, place, x -> SetBytes.layOver(x, printed, wrong));
    }

    /** It is refused at that place, the tape is empty, all else as before; and the object takes a right tape then. */
    private static void refused(States state, String what, int place, Shown.Script tape) {
        String call = state + ": " + what;
        WeightFile x = Shown.made(state::make);
        tape.run(x);
        Due.thrown(call, ARGUMENT, () -> x.restore());
        Due.same(call + ", the place", x.place(), place);
        Due.same(call + ", the tape", x.told(3), 0);
        Due.same(call + ", then all but place and tape", Shown.allButPlaceAndTape(y -> {
            state.make(y);
            tape.run(y);
            leaving(y);
        }), BEFORE.get(state));
        if (state != States.NEW) {
            x.copy();
            Due.same(call + ", then a right tape", x.restore(), stepsOf(state.printed()));
            Due.same(call + ", then no place", x.place(), -1);
        }
    }

    private static void leaving(WeightFile x) {
        try {
            x.restore();
        } catch (IllegalArgumentException e) {
            // That it is thrown was asked before; here counts only what it leaves.
        }
    }
}
