import java.math.BigInteger;
import java.util.Random;

/**
 * The document's opening: "whatever bytes come, they are refused at the first place that is wrong, and
 * then nothing changes; what was put in comes out to its last bit", and the 512 calls of an object.
 */
public final class OpeningTest {
    private static final Class<IllegalArgumentException> ARGUMENT = IllegalArgumentException.class;

    private static final int CALLS = 512;
    private static final int FULL_SET = 81937;
    private static final int SAVE = 0;
    private static final int COPY = 1;
    private static final int RESTORE = 2;

    private static final Random RANDOM = new Random(5);

    public static void main(String[] args) {
        everyOtherByte(States.EMPTY);
        everyOtherByte(States.BUSY);
        anyBytesOfAnyLength();
        anyBytesBehindARightHead();
        comesOutToItsLastBit();
        manyNumbersComeOut();
        anotherObjectTakesTheBytes();
        theLastOf512Calls();
        Due.finish();
    }

    // whatever bytes come: a right set in which one byte is another, for each byte and each other value
    private static void everyOtherByte(States state) {
        byte[] right = state.printed();
        String before = Shown.allButPlaceAndTape(state::make);
        for (int i = 0; i < right.length; i++) {
            for (int from = 0; from < 256; from += 64) {
                int at = i;
                int first = from;
                Due.same(state + ": nothing changes by byte " + i, Shown.allButPlaceAndTape(x -> {
                    state.make(x);
                    pokeAndRestore(x, state, at, first, first + 64);
                }), before);
            }
        }
    }

    private static void pokeAndRestore(WeightFile x, States state, int i, int from, int to) {
        for (int b = from; b < to; b++) {
            byte[] row = state.printed();
            if (row[i] != (byte) b) {
                row[i] = (byte) b;
                x.copy();
                x.poke(i, b);
                refused(state + ": byte " + i + " is " + b, x, SetBytes.firstWrong(row, state.p, state.many));
            }
        }
    }

    private static void anyBytesOfAnyLength() {
        for (int length = 0; length <= 120; length++) {
            byte[] row = new byte[length];
            RANDOM.nextBytes(row);
            for (int many = 0; many <= 4; many++) {
                WeightFile x = setOf(length % 65, many);
                SetBytes.lay(x, row);
                refused("any " + length + " bytes", x, SetBytes.firstWrong(row, length % 65, many));
                seven("any " + length + " bytes", x, many);
            }
        }
    }

    /** Only behind a right head do the numbers count: some of them are wrong, else the check is. */
    private static void anyBytesBehindARightHead() {
        for (int p = 0; p <= 64; p++) {
            for (int many = 1; many <= 4; many++) {
                byte[] row = SetBytes.of(p, p, SetBytes.zeros(many));
                byte[] any = new byte[row.length];
                RANDOM.nextBytes(any);
                System.arraycopy(row, 0, any, 0, SetBytes.NUMBERS_AT);
                WeightFile x = setOf(p, many);
                SetBytes.lay(x, any);
                refused("any numbers, p = " + p, x, SetBytes.firstWrong(any, p, many));
                seven("any numbers, p = " + p, x, many);
            }
        }
    }

    /** All numbers and the steps are 7. */
    private static WeightFile setOf(int p, int many) {
        WeightFile x = new WeightFile();
        x.take(p, many);
        x.count(7);
        for (int n = 0; n < 2 * many; n++) {
            x.put(n % 2, n / 2, 0, 7);
        }
        return x;
    }

    private static void seven(String what, WeightFile x, int many) {
        Due.same(what + ", the parameters stay", x.told(0), many);
        Due.same(what + ", the steps stay", x.told(1), 7);
        for (int n = 0; n < 2 * many; n++) {
            Due.same(what + ", the numbers stay", Numbers.at(x, n % 2, n / 2), BigInteger.valueOf(7));
        }
    }

    private static void refused(String what, WeightFile x, int place) {
        Due.same(what + " is wrong", place != -1, true);
        Due.thrown(what, ARGUMENT, () -> x.restore());
        Due.same(what + ", the place", x.place(), place);
        Due.same(what + ", the tape", x.told(3), 0);
    }

    // what was put in comes out to its last bit
    private static void comesOutToItsLastBit() {
        for (int p = 0; p <= 64; p++) {
            for (int bit = 0; bit < 15 + p; bit++) {
                BigInteger one = BigInteger.ONE.shiftLeft(bit);
                BigInteger ones = one.shiftLeft(1).subtract(BigInteger.ONE);
                comesOut(p, one, one.negate(), ones.negate(), ones);
            }
        }
    }

    private static void comesOut(int p, BigInteger... numbers) {
        WeightFile x = new WeightFile();
        x.take(p, 2);
        for (int n = 0; n < 4; n++) {
            Numbers.put(x, n / 2, n % 2, numbers[n]);
        }
        x.save();
        x.copy();
        x.take(p, 2);
        x.restore();
        for (int n = 0; n < 4; n++) {
            Due.same("number " + n + ", p = " + p, Numbers.at(x, n / 2, n % 2), numbers[n]);
        }
    }

    /** As many as 512 calls can put in and ask for. */
    private static void manyNumbersComeOut() {
        int numbers = (CALLS - 6) / 4;
        for (int p : new int[] {0, 17, 41, 48, 49, 56, 57, 64}) {
            WeightFile x = new WeightFile();
            BigInteger[] due = SetBytes.zeros(4096);
            int[] put = new int[numbers];
            x.take(p, 4096);
            for (int k = 0; k < numbers; k++) {
                put[k] = RANDOM.nextInt(8192);
                BigInteger v = new BigInteger(15 + p, RANDOM);
                due[put[k]] = RANDOM.nextBoolean() ? v : v.negate();
                Numbers.put(x, put[k] / 4096, put[k] % 4096, due[put[k]]);
            }
            x.count(p);
            x.save();
            x.copy();
            x.take(p, 4096);
            Due.same("the steps, p = " + p, x.restore(), p);
            for (int n : put) {
                Due.same("number " + n + ", p = " + p, Numbers.at(x, n / 4096, n % 4096), due[n]);
            }
        }
    }

    // Weights of a network put into bytes and taken out again
    private static void anotherObjectTakesTheBytes() {
        for (int p = 0; p <= 64; p++) {
            WeightFile from = new WeightFile();
            from.take(p, 2);
            from.put(0, 0, 0, p + 1);
            from.put(0, 1, -1, -p - 2);
            Numbers.put(from, 1, 1, Numbers.most(p));
            from.count(1000000 + p);
            byte[] row = new byte[from.save()];
            for (int i = 0; i < row.length; i++) {
                row[i] = (byte) from.printed(i);
            }
            WeightFile to = new WeightFile();
            to.take(p, 2);
            SetBytes.lay(to, row);
            Due.same("the steps", to.restore(), 1000000 + p);
            Due.same("weight 0", Numbers.at(to, 0, 0), BigInteger.valueOf(p + 1));
            Due.same("weight 1", Numbers.at(to, 0, 1), BigInteger.valueOf(-p - 2));
            Due.same("velocity 0", Numbers.at(to, 1, 0), BigInteger.ZERO);
            Due.same("velocity 1", Numbers.at(to, 1, 1), Numbers.most(p));
        }
    }

    // An object is used for at most 512 calls after it has been made
    private static void theLastOf512Calls() {
        Due.same("save", after511Calls(SAVE).save(), FULL_SET);
        Due.same("copy", after511Calls(COPY).copy(), FULL_SET);
        Due.same("restore", after511Calls(RESTORE).restore(), 0);
        Due.same("printed", after511Calls(COPY).printed(0), 69);
        Due.same("poke", after511Calls(RESTORE).poke(1, 0), 84);
        Due.same("feed", after511Calls(RESTORE).feed(1), FULL_SET + 8);
        Due.same("count", after511Calls(SAVE).count(5), 0);
        Due.same("limb", after511Calls(SAVE).limb(1, 4095, 2), -32768);
        Due.same("told", after511Calls(RESTORE).told(3), FULL_SET);
        Due.same("place", after511Calls(SAVE).place(), -1);
        Due.thrown("take", ARGUMENT, () -> after511Calls(SAVE).take(64, 4097));
        Due.thrown("put", ARGUMENT, () -> after511Calls(SAVE).put(0, 0, 32768, 0));
        Due.thrown("end", ARGUMENT, () -> after511Calls(RESTORE).end(FULL_SET + 1));
    }

    /** Saves, copies and restores the full set, so often that this one of them is next. */
    private static WeightFile after511Calls(int next) {
        WeightFile x = new WeightFile();
        x.take(64, 4096);
        Numbers.put(x, 1, 4095, Numbers.most(64).negate());
        int left = CALLS - 1 - 2;
        while (Math.floorMod(next - left, 3) != SAVE) {
            x.place();
            left--;
        }
        while (left > 0) {
            saveCopyOrRestore(x, Math.floorMod(next - left, 3));
            left--;
        }
        return x;
    }

    private static void saveCopyOrRestore(WeightFile x, int which) {
        if (which == SAVE) {
            x.save();
        } else if (which == COPY) {
            x.copy();
        } else {
            x.restore();
        }
    }
}
