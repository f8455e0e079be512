import java.math.BigInteger;
import java.util.Arrays;

/**
 * Objects in which a change by a call would show, and what they hold, written from the document and apart
 * from the class; what is printed is another set than the one they have.
 */
enum States {
    NEW(0, 0, -1) {
        @Override
        void make(WeightFile x) {
        }

        @Override
        byte[] set() {
            return SetBytes.of(0, 0);
        }

        @Override
        byte[] printed() {
            return new byte[0];
        }

        @Override
        byte[] tape() {
            return new byte[0];
        }
    },

    /** No parameters, but all else is as far from a new object as it can be. */
    EMPTY(3, 0, 5) {
        @Override
        void make(WeightFile x) {
            x.take(3, 0);
            x.count(2000000000);
            x.save();
            x.count(6);
            refusedAt(x, 5);
            x.feed(FED);
        }

        @Override
        byte[] set() {
            return SetBytes.of(3, 6);
        }

        @Override
        byte[] printed() {
            return SetBytes.of(3, 2000000000);
        }

        @Override
        byte[] tape() {
            return withFed(new byte[0]);
        }
    },

    BUSY(50, 2, 20) {
        @Override
        void make(WeightFile x) {
            x.take(50, 2);
            putAll(x, savedNumbers());
            x.count(40);
            x.save();
            putAll(x, numbers());
            x.count(41);
            refusedAt(x, 20);
            x.copy();
            x.end(11);
            x.feed(FED);
        }

        private void putAll(WeightFile x, BigInteger[] all) {
            for (int n = 0; n < 4; n++) {
                Numbers.put(x, n / 2, n % 2, all[n]);
            }
        }

        private BigInteger[] savedNumbers() {
            return new BigInteger[] {
                BigInteger.valueOf(-3), Numbers.most(50), Numbers.most(50).negate(), new BigInteger("12345678901234567890"),
            };
        }

        private BigInteger[] numbers() {
            return new BigInteger[] {Numbers.of(0, 6), Numbers.of(1, 7), Numbers.of(-1, 8), Numbers.of(-2, 9)};
        }

        @Override
        byte[] set() {
            return SetBytes.of(50, 41, numbers());
        }

        @Override
        byte[] printed() {
            return SetBytes.of(50, 40, savedNumbers());
        }

        @Override
        byte[] tape() {
            return withFed(Arrays.copyOf(printed(), 11));
        }
    },

    FULL(64, 4096, 81936) {
        @Override
        void make(WeightFile x) {
            x.take(64, 4096);
            for (int i : new int[] {0, 1, 4095}) {
                Numbers.put(x, 0, i, Numbers.most(64));
                Numbers.put(x, 1, i, Numbers.most(64).negate());
            }
            x.count(2000000000);
            x.save();
            for (int i : new int[] {0, 2, 4095}) {
                x.put(0, i, -1, i);
                x.put(1, i, 5, i);
            }
            x.count(7);
            refusedAt(x, 81936);
            x.copy();
            x.feed(FED);
        }

        private BigInteger[] savedNumbers() {
            BigInteger[] numbers = SetBytes.zeros(4096);
            for (int i : new int[] {0, 1, 4095}) {
                numbers[i] = Numbers.most(64);
                numbers[4096 + i] = Numbers.most(64).negate();
            }
            return numbers;
        }

        @Override
        byte[] set() {
            BigInteger[] numbers = savedNumbers();
            for (int i : new int[] {0, 2, 4095}) {
                numbers[i] = Numbers.of(-1, i);
                numbers[4096 + i] = Numbers.of(5, i);
            }
            return SetBytes.of(64, 7, numbers);
        }

        @Override
        byte[] printed() {
            return SetBytes.of(64, 2000000000, savedNumbers());
        }

        @Override
        byte[] tape() {
            return withFed(printed());
        }
    };

    private static final long FED = 0x1122334455667788L;

    final int p;
    final int many;
    final int place;

    States(int p, int many, int place) {
        this.p = p;
        this.many = many;
        this.place = place;
    }

    abstract void make(WeightFile x);

    /** The bytes of the set that they have then. */
    abstract byte[] set();

    /** The bytes that are printed then: those of a set with the same p and as many parameters, if there are any. */
    abstract byte[] printed();

    abstract byte[] tape();

    private static void refusedAt(WeightFile x, int place) {
        x.copy();
        x.end(place);
        Due.thrown("a tape that is too short", IllegalArgumentException.class, () -> x.restore());
        Due.same("its place", x.place(), place);
    }

    private static byte[] withFed(byte[] row) {
        byte[] longer = Arrays.copyOf(row, row.length + 8);
        SetBytes.write(longer, row.length, 8, FED);
        return longer;
    }
}
