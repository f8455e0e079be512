import java.math.BigInteger;

/** Objects in which a change by a refused call would show; what is printed is another set than the one they have. */
enum States {
    NEW(0, 0) {
        @Override
        void make(WeightFile x) {
        }

        @Override
        byte[] printed() {
            return new byte[0];
        }
    },

    /** No parameters, but all else is as far from a new object as it can be. */
    EMPTY(3, 0) {
        @Override
        void make(WeightFile x) {
            x.take(3, 0);
            x.count(2000000000);
            x.save();
            x.count(6);
            refusedAt(x, 5);
            x.feed(0x1122334455667788L);
        }

        @Override
        byte[] printed() {
            return SetBytes.of(3, 2000000000);
        }
    },

    BUSY(50, 2) {
        @Override
        void make(WeightFile x) {
            x.take(50, 2);
            BigInteger[] numbers = numbers();
            for (int n = 0; n < 4; n++) {
                Numbers.put(x, n / 2, n % 2, numbers[n]);
            }
            x.count(40);
            x.save();
            x.put(0, 0, 0, 6);
            x.put(0, 1, 1, 7);
            x.put(1, 0, -1, 8);
            x.put(1, 1, -2, 9);
            x.count(41);
            refusedAt(x, 20);
            x.copy();
            x.end(11);
            x.feed(0x1122334455667788L);
        }

        private BigInteger[] numbers() {
            return new BigInteger[] {
                BigInteger.valueOf(-3), Numbers.most(50), Numbers.most(50).negate(), new BigInteger("12345678901234567890"),
            };
        }

        @Override
        byte[] printed() {
            return SetBytes.of(50, 40, numbers());
        }
    },

    FULL(64, 4096) {
        @Override
        void make(WeightFile x) {
            x.take(64, 4096);
            for (int i : new int[] {0, 1, 4095}) {
                Numbers.put(x, 0, i, Numbers.most(64));
                Numbers.put(x, 1, i, Numbers.most(64).negate());
            }
            x.count(2000000000);
            x.save();
            for (int i : new int[] {0, 2, 4095}) {
                x.put(0, i, -1, i);
                x.put(1, i, 5, i);
            }
            x.count(7);
            refusedAt(x, 81936);
            x.copy();
            x.feed(-1);
        }

        @Override
        byte[] printed() {
            BigInteger[] numbers = SetBytes.zeros(4096);
            for (int i : new int[] {0, 1, 4095}) {
                numbers[i] = Numbers.most(64);
                numbers[4096 + i] = Numbers.most(64).negate();
            }
            return SetBytes.of(64, 2000000000, numbers);
        }
    };

    final int p;
    final int many;

    States(int p, int many) {
        this.p = p;
        this.many = many;
    }

    abstract void make(WeightFile x);

    /** The bytes that are printed then: those of a set with the same p and as many parameters, if there are any. */
    abstract byte[] printed();

    private static void refusedAt(WeightFile x, int place) {
        x.copy();
        x.end(place);
        Due.thrown("a tape that is too short", IllegalArgumentException.class, () -> x.restore());
        Due.same("its place", x.place(), place);
    }
}
