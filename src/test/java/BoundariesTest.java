import java.math.BigInteger;

/**
 * Each sentence of the document that names a boundary case, but for restore (RestoreTest) and for what a
 * refused call leaves as it was (RefusedCallsTest): the last value that is allowed, the first that is
 * not, on both sides; the empty and the full case.
 */
public final class BoundariesTest {
    private static final Class<IllegalArgumentException> ARGUMENT = IllegalArgumentException.class;
    private static final Class<IndexOutOfBoundsException> INDEX = IndexOutOfBoundsException.class;
    private static final Class<IllegalStateException> STATE = IllegalStateException.class;

    private static final int MIN = Integer.MIN_VALUE;
    private static final int MAX = Integer.MAX_VALUE;
    private static final int MOST_STEPS = 2000000000;
    private static final int FULL_SET = 81937;
    private static final int FULL_TAPE = 90000;

    /** The first and the last p of each width, and the width. */
    private static final int[][] WIDTHS = {
        {0, 0, 2}, {1, 8, 3}, {9, 16, 4}, {17, 24, 5}, {25, 32, 6}, {33, 40, 7}, {41, 48, 8}, {49, 56, 9}, {57, 64, 10},
    };

    public static void main(String[] args) {
        termsP();
        termsParameters();
        termsNumbersStrictlyBetween();
        termsSteps();
        termsStepsInFourBytes();
        termsParametersInFourBytes();
        termsPInOneByte();
        termsWidthOfANumber();
        termsTwosComplement();
        termsWeightsThenVelocities();
        termsCheckOfAllThese();
        termsPrintedAreTheBytesSavedLatest();
        termsTheExceptionNamedFirst();
        promise1NewSet();
        promise1EmptyTape();
        promise1NothingPrinted();
        promise2AllAreZero();
        promise2WithoutSteps();
        promise2PIsNot0To64();
        promise2ManyIsNot0To4096();
        promise3LowWithoutASign();
        promise3WhichIsNoneOfThese();
        promise3NoSuchParameter();
        promise3NumberMayNotBeSo();
        promise4Limbs();
        promise4WhichIsNoneOfThese();
        promise4NoSuchParameter();
        promise4NoSuchLimb();
        promise5WhatTheyWere();
        promise5NIsNot0To2000000000();
        promise6NoParameters();
        promise6FullSet();
        promise6MostParametersOfLeastP();
        promise7From0To255();
        promise7ThereIsNone();
        promise8EightBytesHighFirst();
        promise8MostIn512Calls();
        promise8NotMoreThan90000();
        promise9KeepsItsFirst();
        promise9HasNotSoMany();
        promise10NothingPrinted();
        promise10ShorterAndLongerTape();
        promise10FullSet();
        promise11LowestEightBits();
        promise11ThereIsNone();
        promise13ThereWasNone();
        promise13LatestRefused();
        promise13LatestNotRefused();
        promise14Least();
        promise14Most();
        promise14AnotherWhat();
        Due.finish();
    }

    // A SET has p (0 .. 64)
    private static void termsP() {
        for (int p : new int[] {0, 1, 63, 64}) {
            WeightFile x = taken(p, 1);
            Due.same("p", x.told(2), p);
        }
    }

    // a number of PARAMETERS, 0 .. 4096, numbered from 0
    private static void termsParameters() {
        for (int many : new int[] {0, 1, 4095, 4096}) {
            WeightFile x = taken(64, many);
            Due.same("parameters", x.told(0), many);
            if (many > 0) {
                Due.same("the first of " + many, x.limb(0, 0, 0), 0);
                Due.same("the last of " + many, x.limb(1, many - 1, 0), 0);
            }
            Due.thrown("one more than " + many, INDEX, () -> x.limb(0, many, 0));
        }
    }

    // whole numbers (of 2^-p) strictly between -2^(15 + p) and 2^(15 + p)
    private static void termsNumbersStrictlyBetween() {
        for (int p = 0; p <= 64; p++) {
            WeightFile x = taken(p, 1);
            BigInteger most = Numbers.most(p);
            BigInteger limit = Numbers.limit(p);
            for (int which = 0; which <= 1; which++) {
                int kind = which;
                Numbers.put(x, kind, 0, most);
                Due.same("greatest, p = " + p, Numbers.at(x, kind, 0), most);
                Due.thrown("below the least, p = " + p, ARGUMENT, () -> Numbers.put(x, kind, 0, limit.negate()));
                Due.same("greatest stays, p = " + p, Numbers.at(x, kind, 0), most);
                Numbers.put(x, kind, 0, most.negate());
                Due.same("least, p = " + p, Numbers.at(x, kind, 0), most.negate());
                Due.thrown("above the greatest, p = " + p, ARGUMENT, () -> Numbers.put(x, kind, 0, limit));
                Due.same("least stays, p = " + p, Numbers.at(x, kind, 0), most.negate());
            }
        }
    }

    // and a number of STEPS, 0 .. 2000000000
    private static void termsSteps() {
        for (int n : new int[] {0, 1, MOST_STEPS - 1, MOST_STEPS}) {
            WeightFile x = new WeightFile();
            x.count(n);
            Due.same("steps", x.told(1), n);
        }
    }

    // ITS BYTES: 69, 84, 49, 10; the steps (four bytes, the high one first)
    private static void termsStepsInFourBytes() {
        int[][] cases = {
            {0, 0, 0, 0, 0}, {1, 0, 0, 0, 1}, {255, 0, 0, 0, 255}, {256, 0, 0, 1, 0}, {65536, 0, 1, 0, 0},
            {16777216, 1, 0, 0, 0}, {MOST_STEPS, 119, 53, 148, 0},
        };
        for (int[] c : cases) {
            WeightFile x = new WeightFile();
            x.count(c[0]);
            x.save();
            bytesAre("the beginning", x, 0, 69, 84, 49, 10);
            bytesAre("steps " + c[0], x, SetBytes.STEPS_AT, c[1], c[2], c[3], c[4]);
        }
    }

    // and how many parameters there are (four bytes, the high one first)
    private static void termsParametersInFourBytes() {
        int[][] cases = {{0, 0, 0}, {1, 0, 1}, {255, 0, 255}, {256, 1, 0}, {4095, 15, 255}, {4096, 16, 0}};
        for (int[] c : cases) {
            WeightFile x = taken(0, c[0]);
            x.save();
            bytesAre("parameters " + c[0], x, SetBytes.MANY_AT, 0, 0, c[1], c[2]);
        }
    }

    // and p (one byte)
    private static void termsPInOneByte() {
        for (int p = 0; p <= 64; p++) {
            WeightFile x = taken(p, 1);
            x.put(0, 0, -1, -1);
            x.save();
            bytesAre("p and the first byte behind it", x, SetBytes.P_AT, p, 255);
        }
    }

    // each in (p + 23) / 8 bytes (rounded down)
    private static void termsWidthOfANumber() {
        int next = 0;
        for (int[] w : WIDTHS) {
            Due.same("every p has a width", w[0], next);
            next = w[1] + 1;
            for (int p = w[0]; p <= w[1]; p++) {
                Due.same("bytes of one parameter, p = " + p, taken(p, 1).save(), 17 + 2 * w[2]);
                Due.same("bytes of 4096, p = " + p, taken(p, 4096).save(), 17 + 8192 * w[2]);
            }
        }
        Due.same("every p has a width", next, 65);
    }

    // two's complement, the high one first
    private static void termsTwosComplement() {
        for (int p = 0; p <= 64; p++) {
            BigInteger most = Numbers.most(p);
            BigInteger[] all = {
                most, most.negate(), BigInteger.ONE, BigInteger.ONE.negate(), most.shiftRight(1).negate(), BigInteger.ZERO,
            };
            WeightFile x = taken(p, 3);
            for (int n = 0; n < 6; n++) {
                Numbers.put(x, n / 3, n % 3, all[n]);
            }
            x.save();
            Due.same("the bytes, p = " + p, printed(x), SetBytes.text(SetBytes.of(p, 0, all)));
        }
    }

    // the weights, then the velocities
    private static void termsWeightsThenVelocities() {
        WeightFile x = taken(0, 3);
        for (int n = 0; n < 6; n++) {
            x.put(n / 3, n % 3, 0, n + 1);
        }
        x.save();
        bytesAre("the numbers", x, SetBytes.NUMBERS_AT, 0, 1, 0, 2, 0, 3, 0, 4, 0, 5, 0, 6);
    }

    // and the CHECK of all these, four bytes, the high one first
    private static void termsCheckOfAllThese() {
        WeightFile x = new WeightFile();
        x.save();
        bytesAre("the check of the empty set", x, 13, 110, 109, 1, 92);
        for (int bit = 0; bit < 79; bit++) {
            BigInteger v = BigInteger.ONE.shiftLeft(bit);
            checkIs(0, v, BigInteger.ZERO);
            checkIs(0, BigInteger.ZERO, v);
        }
        for (int bit = 0; bit < 31; bit++) {
            checkIs(1 << bit, BigInteger.ZERO, BigInteger.ONE);
        }
    }

    private static void checkIs(int steps, BigInteger weight, BigInteger velocity) {
        WeightFile x = taken(64, 1);
        x.count(steps);
        Numbers.put(x, 0, 0, weight);
        Numbers.put(x, 1, 0, velocity);
        x.save();
        Due.same("a set and its check", printed(x), SetBytes.text(SetBytes.of(64, steps, weight, velocity)));
    }

    // what is PRINTED are the bytes that were saved latest
    private static void termsPrintedAreTheBytesSavedLatest() {
        WeightFile x = taken(64, 2);
        x.save();
        x.take(0, 0);
        Due.same("before it is saved", x.printed(56), SetBytes.of(64, 0, SetBytes.zeros(2))[56] & 255);
        x.save();
        Due.same("a shorter one", printed(x), SetBytes.text(SetBytes.of(0, 0)));
        Due.thrown("a shorter one", INDEX, () -> x.printed(17));
        x.take(0, 1);
        x.count(3);
        x.save();
        Due.same("a longer one", printed(x), SetBytes.text(SetBytes.of(0, 3, SetBytes.zeros(1))));
        Due.thrown("a longer one", INDEX, () -> x.printed(21));
    }

    // of several exceptions that fit the one named first is thrown
    private static void termsTheExceptionNamedFirst() {
        WeightFile x = taken(0, 1);
        Due.thrown("which and the number", INDEX, () -> x.put(2, 0, 0, 32768));
        Due.thrown("which and the number", INDEX, () -> x.put(-1, 0, -1, -32768));
        Due.thrown("the parameter and the number", INDEX, () -> x.put(0, 1, 0, 32768));
        Due.thrown("the parameter and the number", INDEX, () -> x.put(1, -1, MAX, 0));
        Due.thrown("no parameters, and the number", INDEX, () -> new WeightFile().put(0, 0, MIN, 0));
        Due.thrown("only the number", ARGUMENT, () -> x.put(0, 0, 0, 32768));
    }

    // A set with p = 0 and no parameters, no steps
    private static void promise1NewSet() {
        WeightFile x = new WeightFile();
        Due.same("new: parameters", x.told(0), 0);
        Due.same("new: steps", x.told(1), 0);
        Due.same("new: p", x.told(2), 0);
        Due.same("new: counted", x.count(1), 0);
        for (int which = 0; which <= 1; which++) {
            int kind = which;
            Due.thrown("new: limb", INDEX, () -> x.limb(kind, 0, 0));
            Due.thrown("new: put", INDEX, () -> x.put(kind, 0, 0, 0));
        }
    }

    // an empty tape
    private static void promise1EmptyTape() {
        WeightFile x = new WeightFile();
        Due.same("new: bytes of the tape", x.told(3), 0);
        Due.thrown("new: poke", INDEX, () -> x.poke(0, 0));
        Due.thrown("new: end(1)", ARGUMENT, () -> x.end(1));
        x.end(0);
        Due.same("new: feed", x.feed(0), 8);
    }

    // nothing printed
    private static void promise1NothingPrinted() {
        WeightFile x = new WeightFile();
        Due.thrown("new: printed", INDEX, () -> x.printed(0));
        Due.same("new: copy", x.copy(), 0);
    }

    // A new set, of which all weights and velocities are 0
    private static void promise2AllAreZero() {
        String zeros = Shown.set(x -> x.take(64, 4096));
        String again = Shown.set(x -> {
            x.take(64, 4096);
            for (int i : new int[] {0, 1, 2047, 2048, 4095}) {
                Numbers.put(x, 0, i, Numbers.most(64));
                Numbers.put(x, 1, i, Numbers.most(64).negate());
            }
            x.take(64, 4096);
        });
        Due.same("take of 4096 after 4096", again, zeros);
        String after = Shown.set(x -> {
            x.take(64, 3);
            for (int n = 0; n < 6; n++) {
                x.put(n / 3, n % 3, n + 1, -1);
            }
            x.take(64, 0);
            x.take(64, 1);
            x.take(64, 4096);
        });
        Due.same("take of 4096 after fewer", after, zeros);
        Due.same("zeros are printed", Shown.printed(x -> {
            x.take(64, 4096);
            x.save();
        }), Shown.printed(SetBytes.of(64, 0, SetBytes.zeros(4096))));
    }

    // without steps
    private static void promise2WithoutSteps() {
        for (int many : new int[] {0, 1, 4096}) {
            WeightFile x = new WeightFile();
            x.count(MOST_STEPS);
            x.take(0, many);
            Due.same("steps of a new set", x.told(1), 0);
            Due.same("steps of a new set", x.count(5), 0);
        }
    }

    // IllegalArgumentException: p is not 0 .. 64
    private static void promise2PIsNot0To64() {
        for (int p : new int[] {-1, 65, MIN, MAX}) {
            for (int many : new int[] {0, 1, 4096}) {
                Due.thrown("take(" + p + ", " + many + ")", ARGUMENT, () -> new WeightFile().take(p, many));
            }
        }
    }

    // or many not 0 .. 4096
    private static void promise2ManyIsNot0To4096() {
        for (int many : new int[] {-1, 4097, MIN, MAX}) {
            for (int p : new int[] {0, 64, -1, 65}) {
                Due.thrown("take(" + p + ", " + many + ")", ARGUMENT, () -> new WeightFile().take(p, many));
            }
        }
    }

    // becomes high * 2^64 + low, low being without a sign
    private static void promise3LowWithoutASign() {
        BigInteger whole = BigInteger.ONE.shiftLeft(64);
        long[] lows = {0, 1, Long.MAX_VALUE, Long.MIN_VALUE, -1};
        int[] highs = {0, 1, -1, 32767, -32767};
        for (int high : highs) {
            for (long low : lows) {
                WeightFile x = taken(64, 1);
                x.put(0, 0, high, low);
                BigInteger unsigned = BigInteger.valueOf(low).mod(whole);
                BigInteger due = whole.multiply(BigInteger.valueOf(high)).add(unsigned);
                Due.same("put " + high + ", " + low, Numbers.at(x, 0, 0), due);
            }
        }
        WeightFile x = taken(48, 1);
        x.put(0, 0, 0, Long.MAX_VALUE);
        Due.thrown("2^63 is not -2^63", ARGUMENT, () -> x.put(0, 0, 0, Long.MIN_VALUE));
        Due.thrown("2^64 - 1 is not -1", ARGUMENT, () -> x.put(0, 0, 0, -1));
        x.take(49, 1);
        x.put(0, 0, 0, -1);
        Due.same("2^64 - 1", Numbers.at(x, 0, 0), Numbers.most(49));
        x.put(0, 0, -1, 1);
        Due.same("1 - 2^64", Numbers.at(x, 0, 0), Numbers.most(49).negate());
        Due.thrown("-2^64", ARGUMENT, () -> x.put(0, 0, -1, 0));
        Due.thrown("2^64", ARGUMENT, () -> x.put(0, 0, 1, 0));
    }

    // IndexOutOfBoundsException: which is none of these
    private static void promise3WhichIsNoneOfThese() {
        WeightFile x = taken(64, 4096);
        x.put(0, 4095, 0, 1);
        x.put(1, 4095, 0, 2);
        for (int which : new int[] {-1, 2, MIN, MAX}) {
            Due.thrown("put, which = " + which, INDEX, () -> x.put(which, 0, 0, 0));
            Due.thrown("put, which = " + which, INDEX, () -> x.put(which, 4095, 0, 0));
        }
    }

    // or there is no such parameter
    private static void promise3NoSuchParameter() {
        for (int many : new int[] {0, 1, 3, 4096}) {
            WeightFile x = taken(64, many);
            for (int which = 0; which <= 1; which++) {
                int kind = which;
                for (int i : new int[] {-1, many, 2 * many, MIN, MAX}) {
                    Due.thrown("put, parameter " + i + " of " + many, INDEX, () -> x.put(kind, i, 0, 0));
                }
                if (many > 0) {
                    x.put(kind, 0, 0, 1);
                    x.put(kind, many - 1, 0, 2);
                    Due.same("put, the last of " + many, x.limb(kind, many - 1, 0), 2);
                    Due.same("put, the first of " + many, x.limb(kind, 0, 0), many == 1 ? 2 : 1);
                }
            }
        }
    }

    // IllegalArgumentException: the number may not be so
    private static void promise3NumberMayNotBeSo() {
        for (int p = 0; p <= 64; p++) {
            WeightFile x = taken(p, 1);
            BigInteger limit = Numbers.limit(p);
            for (BigInteger v : new BigInteger[] {limit, limit.add(BigInteger.ONE), limit.shiftLeft(1)}) {
                Due.thrown("put " + v + ", p = " + p, ARGUMENT, () -> Numbers.put(x, 0, 0, v));
                Due.thrown("put -" + v + ", p = " + p, ARGUMENT, () -> Numbers.put(x, 1, 0, v.negate()));
            }
            for (int high : new int[] {MIN, -32769, 32768, MAX}) {
                for (long low : new long[] {0, 1, -1, Long.MIN_VALUE, Long.MAX_VALUE}) {
                    Due.thrown("put " + high + ", " + low, ARGUMENT, () -> x.put(0, 0, high, low));
                }
            }
        }
    }

    // Limb k (0 .. 2), 32 bits in two's complement, the lowest is 0
    private static void promise4Limbs() {
        int[][] limbs = {{0, 0, 0}, {1, 2, 3}, {-1, -1, -1}, {-1, 0, 0}, {0, -1, 0}, {0, 0, -1}, {MIN, 0, 0}, {0, MIN, 0},
            {-1, -1, 32767}, {1, 0, -32768}, {MAX, MIN, -32767}};
        for (int[] l : limbs) {
            WeightFile x = taken(64, 1);
            x.put(1, 0, l[2], (long) l[1] << 32 | l[0] & 0xFFFFFFFFL);
            for (int k = 0; k < 3; k++) {
                Due.same("limb " + k, x.limb(1, 0, k), l[k]);
                Due.same("limb " + k + " of the weight", x.limb(0, 0, k), 0);
            }
        }
        WeightFile x = taken(0, 1);
        x.put(0, 0, -1, -32767);
        Due.same("limb 0 of -32767", x.limb(0, 0, 0), -32767);
        Due.same("limb 1 of -32767", x.limb(0, 0, 1), -1);
        Due.same("limb 2 of -32767", x.limb(0, 0, 2), -1);
    }

    // IndexOutOfBoundsException: which is none of these
    private static void promise4WhichIsNoneOfThese() {
        WeightFile x = taken(64, 4096);
        for (int which : new int[] {-1, 2, MIN, MAX}) {
            Due.thrown("limb, which = " + which, INDEX, () -> x.limb(which, 0, 0));
            Due.thrown("limb, which = " + which, INDEX, () -> x.limb(which, 4095, 2));
        }
    }

    // or there is no such parameter
    private static void promise4NoSuchParameter() {
        for (int many : new int[] {0, 1, 3, 4096}) {
            WeightFile x = taken(64, many);
            for (int which = 0; which <= 1; which++) {
                int kind = which;
                for (int i : new int[] {-1, many, 2 * many, MIN, MAX}) {
                    Due.thrown("limb, parameter " + i + " of " + many, INDEX, () -> x.limb(kind, i, 0));
                }
            }
        }
    }

    // or limb
    private static void promise4NoSuchLimb() {
        WeightFile x = taken(64, 4096);
        for (int k : new int[] {-1, 3, MIN, MAX}) {
            Due.thrown("limb " + k, INDEX, () -> x.limb(0, 0, k));
            Due.thrown("limb " + k, INDEX, () -> x.limb(1, 4095, k));
        }
    }

    // The steps become n: what they were
    private static void promise5WhatTheyWere() {
        WeightFile x = new WeightFile();
        Due.same("none", x.count(MOST_STEPS), 0);
        Due.same("the most", x.count(MOST_STEPS), MOST_STEPS);
        Due.same("the most again", x.count(0), MOST_STEPS);
        Due.same("none again", x.count(0), 0);
    }

    // IllegalArgumentException: n is not 0 .. 2000000000
    private static void promise5NIsNot0To2000000000() {
        WeightFile x = new WeightFile();
        x.count(9);
        for (int n : new int[] {-1, MOST_STEPS + 1, MIN, MAX}) {
            Due.thrown("count(" + n + ")", ARGUMENT, () -> x.count(n));
            Due.same("the steps behind count(" + n + ")", x.told(1), 9);
        }
    }

    // The set is printed as its bytes: how many (of no parameters)
    private static void promise6NoParameters() {
        for (int p = 0; p <= 64; p++) {
            WeightFile x = taken(p, 0);
            Due.same("save of no parameters, p = " + p, x.save(), 17);
            Due.same("no parameters, p = " + p, printed(x), SetBytes.text(SetBytes.of(p, 0)));
        }
    }

    // The set is printed as its bytes: how many (of 4096)
    private static void promise6FullSet() {
        Due.same("save of the full set", Shown.made(BoundariesTest::full).save(), FULL_SET);
        BigInteger[] numbers = SetBytes.zeros(4096);
        numbers[0] = Numbers.most(64);
        numbers[4095] = Numbers.most(64).negate();
        numbers[4096] = BigInteger.ONE.negate();
        numbers[8191] = Numbers.most(64).subtract(BigInteger.ONE);
        Due.same("the full set", Shown.printed(x -> {
            full(x);
            x.save();
        }), Shown.printed(SetBytes.of(64, MOST_STEPS, numbers)));
    }

    private static void promise6MostParametersOfLeastP() {
        BigInteger[] numbers = SetBytes.zeros(4096);
        numbers[4095] = Numbers.most(0);
        numbers[8191] = Numbers.most(0).negate();
        Shown.Script made = x -> {
            x.take(0, 4096);
            x.put(0, 4095, 0, 32767);
            x.put(1, 4095, -1, -32767);
        };
        Due.same("save of 4096 parameters, p = 0", Shown.made(made).save(), 16401);
        Due.same("4096 parameters, p = 0", Shown.printed(x -> {
            made.run(x);
            x.save();
        }), Shown.printed(SetBytes.of(0, 0, numbers)));
    }

    // Byte i of what is printed, 0 .. 255
    private static void promise7From0To255() {
        for (int b = 0; b < 256; b++) {
            WeightFile x = taken(1, 1);
            x.put(0, 0, 0, b << 8 | 255 - b);
            x.save();
            bytesAre("a byte " + b, x, 14, b, 255 - b);
        }
    }

    // IndexOutOfBoundsException: there is none
    private static void promise7ThereIsNone() {
        for (int i : new int[] {-1, 0, 1, MIN, MAX}) {
            Due.thrown("printed(" + i + ") of nothing", INDEX, () -> new WeightFile().printed(i));
        }
        for (int many : new int[] {0, 1, 4096}) {
            WeightFile x = taken(64, many);
            int length = x.save();
            Due.same("the first", x.printed(0), 69);
            x.printed(length - 1);
            for (int i : new int[] {-1, length, MIN, MAX}) {
                Due.thrown("printed(" + i + ") of " + length, INDEX, () -> x.printed(i));
            }
        }
    }

    // Eight bytes more on the tape, the high one of v first: how many it has
    private static void promise8EightBytesHighFirst() {
        WeightFile x = new WeightFile();
        Due.same("on an empty tape", x.feed(0x0102030405060708L), 8);
        Due.same("the least", x.feed(Long.MIN_VALUE), 16);
        Due.same("the greatest", x.feed(Long.MAX_VALUE), 24);
        Due.same("-1", x.feed(-1), 32);
        tapeIs("the high one first", x, 1, 2, 3, 4, 5, 6, 7, 8, 128, 0, 0, 0, 0, 0, 0, 0,
                127, 255, 255, 255, 255, 255, 255, 255, 255, 255, 255, 255, 255, 255, 255, 255);
    }

    /** 512 calls never fill the tape: so far they come. */
    private static void promise8MostIn512Calls() {
        WeightFile x = taken(64, 4096);
        x.save();
        int length = x.copy();
        for (int calls = 3; calls < 512; calls++) {
            length += 8;
            Due.same("feed", x.feed(calls), length);
        }
        Due.same("the longest tape of 512 calls", length, 86009);
    }

    // IllegalStateException: there would be more than 90000 (behind the 512th call, but nothing comes nearer)
    private static void promise8NotMoreThan90000() {
        for (int bytes = FULL_TAPE - 7; bytes <= FULL_TAPE; bytes++) {
            WeightFile x = tapeOf(bytes);
            Due.thrown("feed behind " + bytes, STATE, () -> x.feed(1));
            Due.same("the tape of " + bytes, x.told(3), bytes);
        }
        WeightFile x = tapeOf(FULL_TAPE - 8);
        Due.same("feed to 90000", x.feed(0x0102030405060708L), FULL_TAPE);
        for (int k = 1; k <= 8; k++) {
            Due.same("the last bytes", x.poke(FULL_TAPE - 9 + k, 0), k);
        }
        Due.thrown("poke behind 90000", INDEX, () -> x.poke(FULL_TAPE, 0));
        Due.thrown("end behind 90000", ARGUMENT, () -> x.end(FULL_TAPE + 1));
        x.end(FULL_TAPE);
        Due.thrown("feed behind 90000", STATE, () -> x.feed(1));
        Due.same("the full tape", x.told(3), FULL_TAPE);
        Due.thrown("restore of a full tape", ARGUMENT, () -> x.restore());
        Due.same("place of a full tape", x.place(), FULL_TAPE);
        Due.same("feed once it was taken", x.feed(1), 8);
    }

    // The tape keeps its first n bytes
    private static void promise9KeepsItsFirst() {
        for (int n = 0; n <= 16; n++) {
            WeightFile x = new WeightFile();
            x.feed(0x0102030405060708L);
            x.feed(0x090A0B0C0D0E0F10L);
            x.end(n);
            Due.same("kept", x.told(3), n);
            int gone = n;
            Due.thrown("kept, poke", INDEX, () -> x.poke(gone, 0));
            Due.same("fed behind the end", x.feed(-1), n + 8);
            for (int i = 0; i < n + 8; i++) {
                Due.same("byte " + i, x.poke(i, 0), i < n ? i + 1 : 255);
            }
        }
    }

    // IllegalArgumentException: it has not so many, or n is below 0
    private static void promise9HasNotSoMany() {
        WeightFile empty = new WeightFile();
        empty.end(0);
        for (int n : new int[] {-1, 1, FULL_TAPE, MIN, MAX}) {
            Due.thrown("end(" + n + ") of none", ARGUMENT, () -> empty.end(n));
        }
        WeightFile x = new WeightFile();
        x.feed(1);
        x.end(8);
        for (int n : new int[] {-1, 9, MIN, MAX}) {
            Due.thrown("end(" + n + ") of 8", ARGUMENT, () -> x.end(n));
        }
        x.end(7);
        Due.thrown("what went is gone", ARGUMENT, () -> x.end(8));
        x.end(0);
        Due.thrown("what went is gone", ARGUMENT, () -> x.end(1));
        WeightFile full = Shown.made(BoundariesTest::full);
        full.save();
        full.copy();
        Due.thrown("one more than the full set", ARGUMENT, () -> full.end(FULL_SET + 1));
        full.end(FULL_SET);
        full.end(FULL_SET - 1);
        Due.thrown("what went is gone", ARGUMENT, () -> full.end(FULL_SET));
    }

    // The tape becomes what is printed: how many bytes (nothing printed, too)
    private static void promise10NothingPrinted() {
        WeightFile x = new WeightFile();
        Due.same("nothing on an empty tape", x.copy(), 0);
        x.feed(1);
        x.feed(2);
        Due.same("nothing on a tape", x.copy(), 0);
        Due.same("the tape is empty", x.told(3), 0);
        Due.thrown("the tape is empty", INDEX, () -> x.poke(0, 0));
        Due.same("the next eight", x.feed(3), 8);
    }

    private static void promise10ShorterAndLongerTape() {
        for (int feeds = 0; feeds <= 4; feeds++) {
            WeightFile x = taken(0, 1);
            x.put(0, 0, -1, -2);
            x.save();
            for (int k = 0; k < feeds; k++) {
                x.feed(-1);
            }
            Due.same("copy", x.copy(), 21);
            Due.same("told", x.told(3), 21);
            byte[] set = SetBytes.of(0, 0, BigInteger.TWO.negate(), BigInteger.ZERO);
            for (int i = 0; i < 21; i++) {
                Due.same("byte " + i, x.poke(i, 7), set[i] & 255);
            }
            Due.same("printed is not the tape", printed(x), SetBytes.text(set));
            x.take(64, 1);
            x.save();
            Due.same("the tape is not what is printed", x.told(3), 21);
            Due.same("the tape is not what is printed", x.poke(0, 0), 7);
        }
    }

    private static void promise10FullSet() {
        Shown.Script copied = x -> {
            full(x);
            x.save();
            x.copy();
        };
        Due.same("copy of the full set", Shown.made(copied).copy(), FULL_SET);
        String due = " tape " + FULL_SET + " " + Shown.printed(copied) + " fed " + (FULL_SET + 8);
        Due.same("the tape of the full set", Shown.tape(copied), due);
    }

    // Byte i of the tape becomes b (its lowest eight bits): what it was
    private static void promise11LowestEightBits() {
        WeightFile x = new WeightFile();
        x.feed(0);
        int[][] cases = {{0, 0}, {1, 1}, {127, 127}, {128, 128}, {255, 255}, {256, 0}, {257, 1}, {-1, 255}, {-128, 128},
            {-129, 127}, {-256, 0}, {MIN, 0}, {MAX, 255}, {0x12345678, 0x78}};
        int before = 0;
        for (int[] c : cases) {
            Due.same("what it was", x.poke(0, c[0]), before);
            Due.same("the last, what it was", x.poke(7, c[0]), before);
            before = c[1];
        }
        x.poke(0, 1);
        x.poke(7, 8);
        tapeIs("the others stay", x, 1, 0, 0, 0, 0, 0, 0, 8);
    }

    // IndexOutOfBoundsException: there is none
    private static void promise11ThereIsNone() {
        for (int i : new int[] {-1, 0, 1, MIN, MAX}) {
            Due.thrown("poke(" + i + ") of none", INDEX, () -> new WeightFile().poke(i, 1));
        }
        WeightFile x = new WeightFile();
        x.feed(-1);
        for (int i : new int[] {-1, 8, MIN, MAX}) {
            Due.thrown("poke(" + i + ") of 8", INDEX, () -> x.poke(i, 1));
        }
        WeightFile full = Shown.made(BoundariesTest::full);
        full.save();
        Due.thrown("poke of what is only printed", INDEX, () -> full.poke(0, 0));
        full.copy();
        full.poke(FULL_SET - 1, 0);
        Due.thrown("poke behind the full set", INDEX, () -> full.poke(FULL_SET, 0));
    }

    // NONE when .. there was none
    private static void promise13ThereWasNone() {
        WeightFile x = new WeightFile();
        Due.same("NONE", WeightFile.NONE, -1);
        Due.same("place of a new object", x.place(), -1);
        x.take(1, 1);
        x.save();
        x.copy();
        Due.thrown("another call that is refused", ARGUMENT, () -> x.take(65, 1));
        Due.thrown("another call that is refused", INDEX, () -> x.poke(-1, 0));
        Due.same("place before any restore", x.place(), -1);
    }

    // The place of the latest restore() that was refused
    private static void promise13LatestRefused() {
        WeightFile x = new WeightFile();
        Due.thrown("restore of an empty tape", ARGUMENT, () -> x.restore());
        Due.same("place 0 is not NONE", x.place(), 0);
        x.take(0, 0);
        x.save();
        x.copy();
        x.feed(0);
        Due.same("no other call changes it", x.place(), 0);
        Due.thrown("restore of a tape too long", ARGUMENT, () -> x.restore());
        Due.same("the latest", x.place(), 25);
        x.copy();
        x.poke(16, 0);
        Due.thrown("restore of another check", ARGUMENT, () -> x.restore());
        Due.same("the latest", x.place(), 13);
        x.copy();
        x.count(1);
        x.take(64, 4096);
        Due.same("no other call changes it", x.place(), 13);
        Due.same("asking does not change it", x.place(), 13);
    }

    // NONE when the latest one was not
    private static void promise13LatestNotRefused() {
        WeightFile x = new WeightFile();
        x.save();
        x.copy();
        x.restore();
        Due.same("never refused", x.place(), -1);
        Due.thrown("the tape was taken", ARGUMENT, () -> x.restore());
        Due.same("the tape was taken", x.place(), 0);
        x.copy();
        x.restore();
        Due.same("not refused after refused", x.place(), -1);
    }

    // What = 0: how many parameters, 1 steps, 2 p, 3 bytes of the tape
    private static void promise14Least() {
        WeightFile x = Shown.made(BoundariesTest::full);
        x.feed(1);
        x.take(0, 0);
        x.end(0);
        for (int what = 0; what <= 3; what++) {
            Due.same("told(" + what + ") at least", x.told(what), 0);
        }
    }

    private static void promise14Most() {
        WeightFile x = Shown.made(BoundariesTest::full);
        x.save();
        x.copy();
        Due.same("told(0) at most", x.told(0), 4096);
        Due.same("told(1) at most", x.told(1), MOST_STEPS);
        Due.same("told(2) at most", x.told(2), 64);
        Due.same("told(3) of the full set", x.told(3), FULL_SET);
        Due.same("told(3) at most", tapeOf(FULL_TAPE).told(3), FULL_TAPE);
    }

    // NONE for another what
    private static void promise14AnotherWhat() {
        WeightFile full = Shown.made(BoundariesTest::full);
        for (int what : new int[] {-1, 4, 5, MIN, MAX}) {
            Due.same("told(" + what + ") of a new object", new WeightFile().told(what), -1);
            Due.same("told(" + what + ") of a full one", full.told(what), -1);
        }
    }

    private static WeightFile taken(int p, int many) {
        return Shown.made(x -> x.take(p, many));
    }

    private static void full(WeightFile x) {
        x.take(64, 4096);
        Numbers.put(x, 0, 0, Numbers.most(64));
        Numbers.put(x, 0, 4095, Numbers.most(64).negate());
        x.put(1, 0, -1, -1);
        Numbers.put(x, 1, 4095, Numbers.most(64).subtract(BigInteger.ONE));
        x.count(MOST_STEPS);
    }

    private static WeightFile tapeOf(int bytes) {
        WeightFile x = taken(64, 4096);
        x.save();
        int length = x.copy();
        // As many eights below.
        length -= Math.floorMod(length - bytes, 8);
        x.end(length);
        while (length < bytes) {
            length = x.feed(0);
        }
        return x;
    }

    private static void bytesAre(String what, WeightFile x, int at, int... due) {
        for (int k = 0; k < due.length; k++) {
            Due.same(what + ", byte " + (at + k), x.printed(at + k), due[k]);
        }
    }

    private static void tapeIs(String what, WeightFile x, int... due) {
        Due.same(what, x.told(3), due.length);
        for (int i = 0; i < due.length; i++) {
            Due.same(what + ", byte " + i, x.poke(i, due[i]), due[i]);
        }
    }

    /** Only for sets of few bytes, which 512 calls can ask. */
    private static String printed(WeightFile x) {
        int many = x.told(0);
        byte[] row = new byte[17 + 2 * many * SetBytes.width(x.told(2))];
        for (int i = 0; i < row.length; i++) {
            row[i] = (byte) x.printed(i);
        }
        return SetBytes.text(row);
    }
}
