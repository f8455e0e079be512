import java.math.BigInteger;
import java.util.zip.CRC32;

/** Each promise of the document by itself, first of all with ordinary inputs. */
public final class PromisesTest {
    private static final Class<IllegalArgumentException> ARGUMENT = IllegalArgumentException.class;
    private static final Class<IndexOutOfBoundsException> INDEX = IndexOutOfBoundsException.class;
    private static final Class<IllegalStateException> STATE = IllegalStateException.class;

    private static final int MIN = Integer.MIN_VALUE;
    private static final int MAX = Integer.MAX_VALUE;
    private static final int MOST_STEPS = 2000000000;
    private static final int MOST_PRINTED = 81937;

    public static void main(String[] args) {
        promise1NewObject();
        promise2Take();
        promise2TakesAnew();
        promise2Wrong();
        promise3Put();
        promise3Edges();
        promise3Wrong();
        promise4Limb();
        promise5Count();
        promise6Save();
        promise6EveryWidth();
        promise6SavedLatest();
        promise6And12Greatest();
        promise7Printed();
        promise8Feed();
        promise8FullTape();
        promise9End();
        promise10Copy();
        promise11Poke();
        promise12Restore();
        promise12EveryP();
        promise12Length();
        promise12Head();
        promise12Numbers();
        promise12Check();
        promise12Order();
        promise12ByHand();
        promise13Place();
        promise14Told();
        throwingChangesNothing();
        Due.finish();
    }

    private static void promise1NewObject() {
        WeightFile x = new WeightFile();
        Due.same("1: NONE", WeightFile.NONE, -1);
        Due.same("1: parameters", x.told(0), 0);
        Due.same("1: steps", x.told(1), 0);
        Due.same("1: p", x.told(2), 0);
        Due.same("1: tape", x.told(3), 0);
        Due.same("1: place", x.place(), -1);
        Due.thrown("1: printed(0)", INDEX, () -> x.printed(0));
        Due.thrown("1: poke(0, 0)", INDEX, () -> x.poke(0, 0));
        Due.thrown("1: limb(0, 0, 0)", INDEX, () -> x.limb(0, 0, 0));
        Due.thrown("1: put(0, 0, 0, 0)", INDEX, () -> x.put(0, 0, 0, 0));
        busy();
        Due.same("1: objects share nothing", state(x), state(new WeightFile()));
    }

    private static void promise2Take() {
        WeightFile x = busy();
        String printed = printedBytes(x);
        String tape = tapeBytes(x);
        x.take(64, 4096);
        Due.same("2: parameters", x.told(0), 4096);
        Due.same("2: p", x.told(2), 64);
        Due.same("2: steps", x.told(1), 0);
        for (int i : new int[] {0, 1, 2, 3, 4095}) {
            Due.same("2: weight " + i, Numbers.at(x, 0, i), BigInteger.ZERO);
            Due.same("2: velocity " + i, Numbers.at(x, 1, i), BigInteger.ZERO);
        }
        Due.same("2: what is printed stays", printedBytes(x), printed);
        Due.same("2: the tape stays", tapeBytes(x), tape);
        Due.same("2: the place stays", x.place(), 20);
    }

    private static void promise2TakesAnew() {
        WeightFile x = new WeightFile();
        x.take(64, 4096);
        x.put(0, 4095, 1, 2);
        x.put(1, 4095, -1, 2);
        x.take(64, 4096);
        Due.same("2: last weight anew", Numbers.at(x, 0, 4095), BigInteger.ZERO);
        Due.same("2: last velocity anew", Numbers.at(x, 1, 4095), BigInteger.ZERO);
        x.take(8, 3);
        x.put(0, 2, 0, 76);
        x.put(1, 2, 0, 77);
        x.take(8, 1);
        Due.thrown("2: a parameter that was", INDEX, () -> x.limb(0, 1, 0));
        x.take(8, 3);
        Due.same("2: weight, more after fewer", Numbers.at(x, 0, 2), BigInteger.ZERO);
        Due.same("2: velocity, more after fewer", Numbers.at(x, 1, 2), BigInteger.ZERO);
        x.take(0, 0);
        Due.same("2: least parameters", x.told(0), 0);
        Due.same("2: least p", x.told(2), 0);
    }

    private static void promise2Wrong() {
        WeightFile x = new WeightFile();
        for (int p : new int[] {-1, 65, MIN, MAX}) {
            Due.thrown("2: take(" + p + ", 1)", ARGUMENT, () -> x.take(p, 1));
        }
        for (int many : new int[] {-1, 4097, MIN, MAX}) {
            Due.thrown("2: take(1, " + many + ")", ARGUMENT, () -> x.take(1, many));
        }
    }

    private static void promise3Put() {
        WeightFile x = new WeightFile();
        x.take(64, 3);
        x.put(0, 1, 5, 0x8000000000000003L);
        x.put(1, 1, -5, 7);
        BigInteger sixtyFour = BigInteger.ONE.shiftLeft(64);
        Due.same("3: low is without a sign", Numbers.at(x, 0, 1),
                sixtyFour.multiply(BigInteger.valueOf(5)).add(BigInteger.ONE.shiftLeft(63)).add(BigInteger.valueOf(3)));
        Due.same("3: a velocity below 0", Numbers.at(x, 1, 1),
                sixtyFour.multiply(BigInteger.valueOf(-5)).add(BigInteger.valueOf(7)));
        for (int i = 0; i <= 2; i += 2) {
            Due.same("3: weight beside", Numbers.at(x, 0, i), BigInteger.ZERO);
            Due.same("3: velocity beside", Numbers.at(x, 1, i), BigInteger.ZERO);
        }
        x.put(0, 1, 0, 0);
        Due.same("3: put again", Numbers.at(x, 0, 1), BigInteger.ZERO);
    }

    private static void promise3Edges() {
        for (int p = 0; p <= 64; p++) {
            WeightFile x = new WeightFile();
            x.take(p, 1);
            String at = "3: p = " + p;
            BigInteger limit = Numbers.limit(p);
            BigInteger most = limit.subtract(BigInteger.ONE);
            Numbers.put(x, 0, 0, most);
            Due.same(at + " greatest", Numbers.at(x, 0, 0), most);
            Numbers.put(x, 1, 0, most.negate());
            Due.same(at + " least", Numbers.at(x, 1, 0), most.negate());
            for (int shift = 15 + p; shift < 95; shift++) {
                BigInteger far = BigInteger.ONE.shiftLeft(shift);
                Due.thrown(at + " 2^" + shift, ARGUMENT, () -> Numbers.put(x, 0, 0, far));
                Due.thrown(at + " -2^" + shift, ARGUMENT, () -> Numbers.put(x, 0, 0, far.negate()));
            }
            Due.thrown(at + " one below", ARGUMENT, () -> Numbers.put(x, 1, 0, limit.negate().subtract(BigInteger.ONE)));
            Due.thrown(at + " one above", ARGUMENT, () -> Numbers.put(x, 1, 0, limit.add(BigInteger.ONE)));
            Due.thrown(at + " greatest of all", ARGUMENT, () -> x.put(0, 0, MAX, -1));
            Due.thrown(at + " least of all", ARGUMENT, () -> x.put(0, 0, MIN, 0));
            long copied = 15 + p < 62 ? 1L << (15 + p) : 0;
            Due.thrown(at + " high 65536, copied in low", ARGUMENT, () -> x.put(0, 0, 65536, 65536 * copied));
            if (p < 47) {
                Due.thrown(at + " high 1, copied in low", ARGUMENT, () -> x.put(0, 0, 1, copied));
                Due.thrown(at + " high -2, copied in low", ARGUMENT, () -> x.put(0, 0, -2, -2 * copied));
            }
        }
    }

    private static void promise3Wrong() {
        WeightFile x = new WeightFile();
        x.take(64, 3);
        for (int which : new int[] {-1, 2, MIN, MAX}) {
            Due.thrown("3: which " + which, INDEX, () -> x.put(which, 0, 0, 0));
            Due.thrown("3: the index before the number", INDEX, () -> x.put(which, 0, MAX, 0));
        }
        for (int i : new int[] {-1, 3, 4096, MIN, MAX}) {
            Due.thrown("3: weight " + i, INDEX, () -> x.put(0, i, 0, 0));
            Due.thrown("3: velocity " + i, INDEX, () -> x.put(1, i, 0, 0));
            Due.thrown("3: the index before the number", INDEX, () -> x.put(0, i, MAX, 0));
        }
    }

    private static void promise4Limb() {
        WeightFile x = new WeightFile();
        x.take(64, 2);
        x.put(0, 0, 0x1234, 0x89ABCDEF76543210L);
        x.put(1, 1, -2, 0x00000000FFFFFFFFL);
        Due.same("4: limb 0", x.limb(0, 0, 0), 0x76543210);
        Due.same("4: limb 1", x.limb(0, 0, 1), 0x89ABCDEF);
        Due.same("4: limb 2", x.limb(0, 0, 2), 0x1234);
        Due.same("4: limb 0 of a velocity", x.limb(1, 1, 0), -1);
        Due.same("4: limb 1 of a velocity", x.limb(1, 1, 1), 0);
        Due.same("4: limb 2 of a velocity", x.limb(1, 1, 2), -2);
        x.take(0, 1);
        x.put(0, 0, -1, -3);
        Due.same("4: limb 0 below 0", x.limb(0, 0, 0), -3);
        Due.same("4: limb 1 below 0", x.limb(0, 0, 1), -1);
        Due.same("4: limb 2 below 0", x.limb(0, 0, 2), -1);
        for (int wrong : new int[] {-1, 3, MIN, MAX}) {
            Due.thrown("4: which " + wrong, INDEX, () -> x.limb(wrong, 0, 0));
            Due.thrown("4: weight " + wrong, INDEX, () -> x.limb(0, wrong, 0));
            Due.thrown("4: velocity " + wrong, INDEX, () -> x.limb(1, wrong, 0));
            Due.thrown("4: limb " + wrong, INDEX, () -> x.limb(0, 0, wrong));
        }
        Due.thrown("4: which 2", INDEX, () -> x.limb(2, 0, 0));
        Due.thrown("4: parameter 1 of 1", INDEX, () -> x.limb(0, 1, 0));
    }

    private static void promise5Count() {
        WeightFile x = new WeightFile();
        Due.same("5: at first", x.count(12), 0);
        Due.same("5: what they were", x.count(MOST_STEPS), 12);
        Due.same("5: the most", x.told(1), MOST_STEPS);
        Due.same("5: what they were", x.count(0), MOST_STEPS);
        Due.same("5: the least", x.told(1), 0);
        for (int n : new int[] {-1, MOST_STEPS + 1, MIN, MAX}) {
            Due.thrown("5: count(" + n + ")", ARGUMENT, () -> x.count(n));
        }
    }

    private static void promise6Save() {
        WeightFile x = new WeightFile();
        Due.same("6: save of no parameters", x.save(), 17);
        Due.same("6: no parameters", printedBytes(x), hex("45 54 31 0A 00 00 00 00 00 00 00 00 00 6E 6D 01 5C"));
        x.take(9, 2);
        x.count(0x01020304);
        x.put(0, 0, 0, 0x123456);
        x.put(0, 1, -1, -2);
        x.put(1, 0, -1, -0xFFFFFF);
        x.put(1, 1, 0, 0xFFFFFF);
        String set = "45 54 31 0A 01 02 03 04 00 00 00 02 09"
                + " 00 12 34 56 FF FF FF FE FF 00 00 01 00 FF FF FF";
        Due.same("6: how many", x.save(), 33);
        Due.same("6: the bytes", printedBytes(x), withCheck(set));
        Due.same("6: the set stays", Numbers.at(x, 1, 0), BigInteger.valueOf(-0xFFFFFF));
        Due.same("6: the steps stay", x.told(1), 0x01020304);
        Due.same("6: the tape stays", x.told(3), 0);
    }

    private static void promise6EveryWidth() {
        for (int p = 0; p <= 64; p++) {
            WeightFile x = new WeightFile();
            x.take(p, 2);
            BigInteger most = Numbers.limit(p).subtract(BigInteger.ONE);
            Numbers.put(x, 0, 1, most);
            Numbers.put(x, 1, 0, most.negate());
            int width = (p + 23) / 8;
            String zero = inBytes(BigInteger.ZERO, width);
            String set = "45 54 31 0A 00 00 00 00 00 00 00 02" + inBytes(BigInteger.valueOf(p), 1)
                    + zero + inBytes(most, width) + inBytes(most.negate(), width) + zero;
            Due.same("6: how many, p = " + p, x.save(), 17 + 4 * width);
            Due.same("6: the bytes, p = " + p, printedBytes(x), withCheck(set));
        }
    }

    private static void promise6SavedLatest() {
        WeightFile x = new WeightFile();
        x.take(20, 3);
        x.save();
        x.take(0, 0);
        Due.same("6: a shorter one", x.save(), 17);
        Due.thrown("6: the longer one is gone", INDEX, () -> x.printed(17));
        String before = printedBytes(x);
        x.count(5);
        Due.same("6: not before it is saved", printedBytes(x), before);
        x.save();
        Due.same("6: saved latest", x.printed(7), 5);
    }

    private static void promise6And12Greatest() {
        WeightFile x = new WeightFile();
        x.take(64, 4096);
        x.put(0, 4095, 0x7FFF, -1);
        x.put(1, 4095, -0x8000, 1);
        x.count(MOST_STEPS);
        Due.same("6: the greatest set", x.save(), MOST_PRINTED);
        Due.same("6: its last number", x.printed(MOST_PRINTED - 5), 1);
        Due.thrown("7: behind the greatest set", INDEX, () -> x.printed(MOST_PRINTED));
        Due.same("10: the greatest set", x.copy(), MOST_PRINTED);
        x.take(64, 4096);
        Due.same("12: the greatest set", x.restore(), MOST_STEPS);
        Due.same("12: its last weight", Numbers.at(x, 0, 4095), Numbers.limit(64).subtract(BigInteger.ONE));
        Due.same("12: its last velocity", Numbers.at(x, 1, 4095), BigInteger.ONE.subtract(Numbers.limit(64)));
        x.copy();
        x.poke(MOST_PRINTED - 5, 0);
        Due.thrown("12: its last velocity is wrong", ARGUMENT, () -> x.restore());
        Due.same("13: its last velocity is wrong", x.place(), MOST_PRINTED - 14);
    }

    private static void promise7Printed() {
        WeightFile x = new WeightFile();
        Due.thrown("7: nothing is printed", INDEX, () -> x.printed(0));
        x.take(0, 1);
        x.put(0, 0, -1, -1);
        x.save();
        Due.same("7: the first", x.printed(0), 69);
        Due.same("7: 0 .. 255", x.printed(13), 255);
        Due.same("7: the number of parameters", x.printed(11), 1);
        x.copy();
        x.poke(0, 1);
        Due.same("7: not the tape", x.printed(0), 69);
        for (int i : new int[] {-1, 21, 90000, MIN, MAX}) {
            Due.thrown("7: printed(" + i + ")", INDEX, () -> x.printed(i));
        }
    }

    private static void promise8Feed() {
        WeightFile x = new WeightFile();
        Due.same("8: eight", x.feed(0x8102030405060708L), 8);
        Due.same("8: sixteen", x.feed(-1), 16);
        Due.same("8: the high one first", tapeBytes(x), hex("81 02 03 04 05 06 07 08 FF FF FF FF FF FF FF FF"));
        x.end(3);
        Due.same("8: behind an end", x.feed(0), 11);
        Due.same("8: behind an end", tapeBytes(x), hex("81 02 03 00 00 00 00 00 00 00 00"));
        Due.same("8: told", x.told(3), 11);
    }

    /** 512 calls cannot fill a tape, and behind them all is free; but the limit stands in the class. */
    private static void promise8FullTape() {
        WeightFile x = new WeightFile();
        x.take(64, 4096);
        x.save();
        int many = x.copy();
        while (many + 8 <= 90000) {
            many += 8;
            Due.same("8: feed", x.feed(many), many);
        }
        Due.same("8: nearly full", many, 89993);
        Due.thrown("8: more than 90000", STATE, () -> x.feed(1));
        Due.same("8: a throw adds nothing", x.told(3), 89993);
        x.end(89992);
        Due.same("8: full", x.feed(2), 90000);
        Due.thrown("8: full already", STATE, () -> x.feed(3));
        Due.same("8: the last byte", x.poke(89999, 0), 2);
        Due.thrown("12: too long", ARGUMENT, () -> x.restore());
        Due.same("13: too long", x.place(), 90000);
    }

    private static void promise9End() {
        WeightFile x = new WeightFile();
        x.end(0);
        Due.thrown("9: an empty tape", ARGUMENT, () -> x.end(1));
        x.feed(0x0102030405060708L);
        x.end(8);
        Due.same("9: all of it", tapeBytes(x), hex("01 02 03 04 05 06 07 08"));
        for (int n : new int[] {-1, 9, 90000, MIN, MAX}) {
            Due.thrown("9: end(" + n + ")", ARGUMENT, () -> x.end(n));
        }
        x.end(5);
        Due.same("9: the first five", tapeBytes(x), hex("01 02 03 04 05"));
        Due.thrown("9: what went is gone", ARGUMENT, () -> x.end(6));
        Due.thrown("9: what went is gone", INDEX, () -> x.poke(5, 0));
        x.end(0);
        Due.same("9: none", x.told(3), 0);
    }

    private static void promise10Copy() {
        WeightFile x = new WeightFile();
        x.feed(1);
        Due.same("10: nothing is printed", x.copy(), 0);
        Due.same("10: an empty tape", x.told(3), 0);
        x.take(3, 1);
        x.put(1, 0, -1, -77);
        x.save();
        String printed = printedBytes(x);
        for (int k = 0; k < 5; k++) {
            x.feed(-1);
        }
        Due.same("10: a longer tape", x.copy(), 23);
        Due.same("10: the bytes", tapeBytes(x), printed);
        x.poke(13, 99);
        Due.same("10: what is printed stays", printedBytes(x), printed);
        x.take(3, 0);
        x.save();
        Due.same("10: the tape is no view", x.told(3), 23);
        Due.same("10: the tape is no view", x.poke(13, 0), 99);
        Due.same("10: told", x.copy(), x.told(3));
    }

    private static void promise11Poke() {
        WeightFile x = new WeightFile();
        Due.thrown("11: an empty tape", INDEX, () -> x.poke(0, 0));
        x.feed(0xFF02030405060780L);
        Due.same("11: what it was", x.poke(0, 0x1FE), 255);
        Due.same("11: its lowest eight bits", x.poke(0, -1), 0xFE);
        Due.same("11: below 0", x.poke(0, MIN), 255);
        Due.same("11: none of the eight", x.poke(0, 7), 0);
        Due.same("11: the last", x.poke(7, 1), 128);
        Due.same("11: the others stay", tapeBytes(x), hex("07 02 03 04 05 06 07 01"));
        for (int i : new int[] {-1, 8, 90000, MIN, MAX}) {
            Due.thrown("11: poke(" + i + ", 1)", INDEX, () -> x.poke(i, 1));
        }
    }

    private static void promise12Restore() {
        WeightFile x = new WeightFile();
        x.take(33, 2);
        x.put(0, 0, 0, 0x8888_1234_5678L);
        x.put(0, 1, -1, -0x8888_1234_5678L);
        x.put(1, 0, 0, 1);
        x.put(1, 1, -1, -1);
        x.count(31);
        x.save();
        x.copy();
        String printed = printedBytes(x);
        x.take(33, 2);
        x.put(1, 1, 0, 5);
        Due.same("12: the steps", x.restore(), 31);
        Due.same("12: weight 0", Numbers.at(x, 0, 0), BigInteger.valueOf(0x8888_1234_5678L));
        Due.same("12: weight 1", Numbers.at(x, 0, 1), BigInteger.valueOf(-0x8888_1234_5678L));
        Due.same("12: velocity 0", Numbers.at(x, 1, 0), BigInteger.ONE);
        Due.same("12: velocity 1", Numbers.at(x, 1, 1), BigInteger.ONE.negate());
        Due.same("12: the steps", x.told(1), 31);
        Due.same("12: the tape is empty", x.told(3), 0);
        Due.same("12: what is printed stays", printedBytes(x), printed);
        Due.same("12: the parameters stay", x.told(0), 2);
        Due.same("12: p stays", x.told(2), 33);
    }

    private static void promise12EveryP() {
        for (int p = 0; p <= 64; p++) {
            WeightFile x = new WeightFile();
            BigInteger most = Numbers.limit(p).subtract(BigInteger.ONE);
            BigInteger odd = new BigInteger("123456789123456789123456").mod(most);
            x.take(p, 2);
            Numbers.put(x, 0, 0, most);
            Numbers.put(x, 0, 1, odd);
            Numbers.put(x, 1, 0, most.negate());
            Numbers.put(x, 1, 1, odd.negate());
            x.count(p);
            x.save();
            x.copy();
            x.take(p, 2);
            Due.same("12: steps, p = " + p, x.restore(), p);
            Due.same("12: greatest, p = " + p, Numbers.at(x, 0, 0), most);
            Due.same("12: odd, p = " + p, Numbers.at(x, 0, 1), odd);
            Due.same("12: least, p = " + p, Numbers.at(x, 1, 0), most.negate());
            Due.same("12: odd below 0, p = " + p, Numbers.at(x, 1, 1), odd.negate());
        }
    }

    private static void promise12Length() {
        WeightFile x = new WeightFile();
        x.take(5, 1);
        x.save();
        for (int length = 0; length < 23; length++) {
            x.copy();
            x.end(length);
            refused(x, "too short, " + length, length);
        }
        for (int length = 24; length <= 31; length++) {
            x.copy();
            x.feed(0);
            x.end(length);
            refused(x, "too long, " + length, length);
        }
        x.take(5, 2);
        x.copy();
        refused(x, "the length of a set with fewer parameters", 23);
    }

    private static void promise12Head() {
        WeightFile x = new WeightFile();
        x.take(5, 1);
        x.save();
        for (int i = 0; i < 4; i++) {
            Due.same("12: byte " + i, placeOf(x, i, 0), i);
        }
        Due.same("12: steps below 0", placeOf(x, 4, 128), 4);
        Due.same("12: too many steps", placeOf(x, 4, 0x78), 4);
        Due.same("12: the most steps, another check", placeOfSteps(x, MOST_STEPS), 19);
        Due.same("12: one step more", placeOfSteps(x, MOST_STEPS + 1), 4);
        Due.same("12: steps -1", placeOfSteps(x, -1), 4);
        for (int i = 8; i < 12; i++) {
            Due.same("12: another number of parameters, byte " + i, placeOf(x, i, 2), 8);
        }
        for (int p : new int[] {0, 4, 6, 64, 133, 255}) {
            Due.same("12: another p, " + p, placeOf(x, 12, p), 12);
        }
        x.take(6, 1);
        x.copy();
        refused(x, "another p of the same length", 12);
    }

    private static void promise12Numbers() {
        for (int p = 0; p <= 64; p++) {
            WeightFile x = new WeightFile();
            x.take(p, 2);
            int width = (p + 23) / 8;
            x.save();
            for (int n = 0; n < 4; n++) {
                int at = 13 + n * width;
                Due.same("12: too small, p = " + p, placeOfNumber(x, at, width, Numbers.limit(p).negate()), at);
                Due.same("12: least", placeOfNumber(x, at, width, BigInteger.ONE.subtract(Numbers.limit(p))), 13 + 4 * width);
                if (8 * width > 16 + p) {
                    Due.same("12: too great, p = " + p, placeOfNumber(x, at, width, Numbers.limit(p)), at);
                }
            }
        }
    }

    private static void promise12Check() {
        WeightFile x = new WeightFile();
        x.take(7, 1);
        x.put(0, 0, 0, 9);
        x.save();
        for (int bit = 0; bit < 8; bit++) {
            for (int i = 19; i < 23; i++) {
                Due.same("12: another check", placeOf(x, i, x.printed(i) ^ 1 << bit), 19);
            }
            Due.same("12: another number", placeOf(x, 15, x.printed(15) ^ 1 << bit), 19);
        }
    }

    private static void promise12Order() {
        WeightFile x = new WeightFile();
        x.take(64, 2);
        x.save();
        int[] wrongs = {53, 43, 33, 23, 13, 12, 8, 4, 3, 2, 1, 0};
        for (int last = 0; last < wrongs.length; last++) {
            x.copy();
            for (int k = 0; k <= last; k++) {
                x.poke(wrongs[k], 128);
            }
            refused(x, "the first that is wrong", wrongs[last]);
        }
        x.copy();
        x.poke(0, 0);
        x.end(20);
        refused(x, "the length before all", 20);
    }

    /** A tape that no save wrote. */
    private static void promise12ByHand() {
        WeightFile x = new WeightFile();
        x.take(0, 1);
        feedAll(x, withCheck("45 54 31 0A 77 35 94 00 00 00 00 01 00 80 01 7F FF"));
        Due.same("12: the steps", x.restore(), MOST_STEPS);
        Due.same("12: the weight", Numbers.at(x, 0, 0), BigInteger.valueOf(-32767));
        Due.same("12: the velocity", Numbers.at(x, 1, 0), BigInteger.valueOf(32767));
        feedAll(x, withCheck("45 54 31 0A 77 35 94 01 00 00 00 01 00 00 00 00 00"));
        refused(x, "steps with the right check", 4);
        feedAll(x, withCheck("45 54 31 0A 00 00 00 00 00 00 00 01 00 00 00 80 00"));
        refused(x, "a velocity with the right check", 15);
        Due.same("12: nothing changes", Numbers.at(x, 0, 0), BigInteger.valueOf(-32767));
        Due.same("12: nothing changes", x.told(1), MOST_STEPS);
    }

    private static void promise13Place() {
        WeightFile x = new WeightFile();
        Due.same("13: none yet", x.place(), -1);
        Due.thrown("13: an empty tape", ARGUMENT, () -> x.restore());
        Due.same("13: an empty tape", x.place(), 0);
        x.take(1, 1);
        x.save();
        x.copy();
        Due.same("13: it stays", x.place(), 0);
        x.poke(2, 0);
        Due.thrown("13: another beginning", ARGUMENT, () -> x.restore());
        Due.same("13: the latest", x.place(), 2);
        Due.same("13: asked again", x.place(), 2);
        Due.thrown("13: another throw", ARGUMENT, () -> x.count(-1));
        Due.same("13: another throw", x.place(), 2);
        x.copy();
        x.restore();
        Due.same("13: not refused", x.place(), -1);
    }

    private static void promise14Told() {
        WeightFile x = busy();
        Due.same("14: parameters", x.told(0), 2);
        Due.same("14: steps", x.told(1), 40);
        Due.same("14: p", x.told(2), 50);
        Due.same("14: the tape", x.told(3), 19);
        for (int what : new int[] {-1, 4, MIN, MAX}) {
            Due.same("14: told(" + what + ")", x.told(what), -1);
        }
    }

    private static void throwingChangesNothing() {
        unchanged("take", ARGUMENT, x -> x.take(65, 1));
        unchanged("take", ARGUMENT, x -> x.take(1, 4097));
        unchanged("put", INDEX, x -> x.put(2, 0, 0, 1));
        unchanged("put", INDEX, x -> x.put(1, 2, 0, 1));
        unchanged("put", ARGUMENT, x -> x.put(0, 1, 3, 1));
        unchanged("limb", INDEX, x -> x.limb(0, 0, 3));
        unchanged("count", ARGUMENT, x -> x.count(MOST_STEPS + 1));
        unchanged("printed", INDEX, x -> x.printed(-1));
        unchanged("end", ARGUMENT, x -> x.end(20));
        unchanged("poke", INDEX, x -> x.poke(19, 3));
        WeightFile x = busy();
        x.save();
        String numbers = numbers(x);
        String printed = printedBytes(x);
        x.count(41);
        x.put(0, 0, 0, 1);
        x.copy();
        x.poke(13 + 4 * 9 + 3, 200);
        refused(x, "a check that is wrong in its last byte", 49);
        Due.same("12: refused, the weight stays", x.limb(0, 0, 0), 1);
        x.put(0, 0, 0, 6);
        Due.same("12: refused, the numbers stay", numbers(x), numbers);
        Due.same("12: refused, the steps stay", x.told(1), 41);
        Due.same("12: refused, what is printed stays", printedBytes(x), printed);
    }

    private interface CallOn {
        void run(WeightFile x);
    }

    private static void unchanged(String what, Class<? extends RuntimeException> kind, CallOn call) {
        WeightFile x = busy();
        String before = state(x);
        Due.thrown(what + " on a busy object", kind, () -> call.run(x));
        Due.same(what + " throws and changes", state(x), before);
    }

    /** An object of which no part is as it was made. */
    private static WeightFile busy() {
        WeightFile x = new WeightFile();
        x.take(10, 1);
        x.put(0, 0, 0, 3);
        x.save();
        x.copy();
        x.end(20);
        try {
            x.restore();
        } catch (IllegalArgumentException e) {
            // It was to be refused, for a place.
        }
        x.take(50, 2);
        x.put(0, 0, 0, 6);
        x.put(0, 1, 1, 7);
        x.put(1, 0, -1, 8);
        x.put(1, 1, -2, 9);
        x.count(40);
        x.copy();
        x.end(11);
        x.feed(0x1122334455667788L);
        return x;
    }

    private static void refused(WeightFile x, String what, int place) {
        Due.thrown("12: " + what, ARGUMENT, () -> x.restore());
        Due.same("13: " + what, x.place(), place);
        Due.same("12: the tape is empty, " + what, x.told(3), 0);
    }

    /** Where what is printed is refused with one byte changed. */
    private static int placeOf(WeightFile x, int i, int b) {
        x.copy();
        x.poke(i, b);
        return placeOfTape(x);
    }

    private static int placeOfSteps(WeightFile x, int steps) {
        x.copy();
        pokeAll(x, 4, inBytes(BigInteger.valueOf(steps), 4));
        return placeOfTape(x);
    }

    private static int placeOfNumber(WeightFile x, int at, int width, BigInteger v) {
        x.copy();
        pokeAll(x, at, inBytes(v, width));
        return placeOfTape(x);
    }

    private static int placeOfTape(WeightFile x) {
        Due.thrown("12: restore", ARGUMENT, () -> x.restore());
        return x.place();
    }

    private static void pokeAll(WeightFile x, int at, String bytes) {
        for (int k = 0; k < bytes.length() / 3; k++) {
            x.poke(at + k, byteOf(bytes, k));
        }
    }

    private static void feedAll(WeightFile x, String bytes) {
        int many = bytes.length() / 3;
        for (int k = 0; k < many; k += 8) {
            x.feed(0);
        }
        x.end(many);
        pokeAll(x, 0, bytes);
    }

    private static String numbers(WeightFile x) {
        StringBuilder all = new StringBuilder();
        for (int which = 0; which < 2; which++) {
            for (int i = 0; i < x.told(0); i++) {
                all.append(Numbers.at(x, which, i)).append(' ');
            }
        }
        return all.toString();
    }

    private static String state(WeightFile x) {
        return x.told(0) + " " + x.told(1) + " " + x.told(2) + " " + x.place() + " " + numbers(x)
                + printedBytes(x) + "/" + tapeBytes(x);
    }

    private static String printedBytes(WeightFile x) {
        StringBuilder all = new StringBuilder();
        try {
            for (int i = 0; i < 90000; i++) {
                all.append(inHex(x.printed(i)));
            }
        } catch (IndexOutOfBoundsException e) {
            // Only so does the class tell how many are printed.
        }
        return all.toString();
    }

    private static String tapeBytes(WeightFile x) {
        StringBuilder all = new StringBuilder();
        for (int i = 0; i < x.told(3); i++) {
            int b = x.poke(i, 0);
            x.poke(i, b);
            all.append(inHex(b));
        }
        return all.toString();
    }

    private static String inHex(int b) {
        return String.format(" %02X", b);
    }

    private static String hex(String bytes) {
        return bytes.startsWith(" ") ? bytes : " " + bytes;
    }

    private static int byteOf(String bytes, int k) {
        return Integer.parseInt(bytes.substring(3 * k + 1, 3 * k + 3), 16);
    }

    private static String inBytes(BigInteger v, int width) {
        StringBuilder all = new StringBuilder();
        for (int k = width - 1; k >= 0; k--) {
            all.append(inHex(v.shiftRight(8 * k).intValue() & 255));
        }
        return all.toString();
    }

    private static String withCheck(String set) {
        String bytes = hex(set);
        CRC32 check = new CRC32();
        for (int k = 0; k < bytes.length() / 3; k++) {
            check.update(byteOf(bytes, k));
        }
        return bytes + inBytes(BigInteger.valueOf(check.getValue()), 4);
    }
}
