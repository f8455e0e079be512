import java.math.BigInteger;
import java.util.Arrays;

/** The bytes of a set, written from the document's terms and apart from the class. */
final class SetBytes {
    static final int STEPS_AT = 4;
    static final int MANY_AT = 8;
    static final int P_AT = 12;
    static final int NUMBERS_AT = 13;

    private SetBytes() {
    }

    /** The numbers are the weights, then as many velocities. */
    static byte[] of(int p, int steps, BigInteger... numbers) {
        int width = width(p);
        byte[] row = new byte[NUMBERS_AT + numbers.length * width + 4];
        write(row, 0, 4, 0x4554310A);
        write(row, STEPS_AT, 4, steps);
        write(row, MANY_AT, 4, numbers.length / 2);
        write(row, P_AT, 1, p);
        for (int n = 0; n < numbers.length; n++) {
            write(row, NUMBERS_AT + n * width, width, numbers[n]);
        }
        mendCheck(row);
        return row;
    }

    static int width(int p) {
        return (p + 23) / 8;
    }

    static BigInteger[] zeros(int many) {
        BigInteger[] numbers = new BigInteger[2 * many];
        Arrays.fill(numbers, BigInteger.ZERO);
        return numbers;
    }

    static void write(byte[] row, int at, int width, long v) {
        write(row, at, width, BigInteger.valueOf(v));
    }

    static void write(byte[] row, int at, int width, BigInteger v) {
        for (int k = 0; k < width; k++) {
            row[at + k] = v.shiftRight(8 * (width - 1 - k)).byteValue();
        }
    }

    static void mendCheck(byte[] row) {
        write(row, row.length - 4, 4, check(row, row.length - 4));
    }

    /** In the document's words, a bit at a time. */
    static int check(byte[] row, int length) {
        int c = -1;
        for (int i = 0; i < length; i++) {
            c ^= row[i] & 255;
            for (int k = 0; k < 8; k++) {
                int went = c & 1;
                c >>>= 1;
                if (went == 1) {
                    c ^= 0xEDB88320;
                }
            }
        }
        return ~c;
    }

    /** Where a set with this p and as many parameters refuses the bytes, -1 if it takes them. */
    static int firstWrong(byte[] row, int p, int many) {
        int width = width(p);
        int checkAt = NUMBERS_AT + 2 * many * width;
        if (row.length != checkAt + 4) {
            return row.length;
        }
        byte[] right = of(p, 0, zeros(many));
        int differs = Arrays.mismatch(row, 0, 4, right, 0, 4);
        if (differs != -1) {
            return differs;
        }
        if (new BigInteger(1, Arrays.copyOfRange(row, STEPS_AT, MANY_AT)).compareTo(BigInteger.valueOf(2000000000)) > 0) {
            return STEPS_AT;
        }
        if (!Arrays.equals(row, MANY_AT, P_AT, right, MANY_AT, P_AT)) {
            return MANY_AT;
        }
        if (row[P_AT] != p) {
            return P_AT;
        }
        for (int at = NUMBERS_AT; at < checkAt; at += width) {
            BigInteger v = new BigInteger(Arrays.copyOfRange(row, at, at + width));
            if (v.abs().compareTo(Numbers.most(p)) > 0) {
                return at;
            }
        }
        byte[] mended = row.clone();
        mendCheck(mended);
        return Arrays.equals(row, mended) ? -1 : checkAt;
    }

    /** A copy in which the bytes at a place are others, and the check is that of the whole. */
    static byte[] with(byte[] row, int at, int width, BigInteger v) {
        byte[] other = row.clone();
        write(other, at, width, v);
        mendCheck(other);
        return other;
    }

    static byte[] with(byte[] row, int at, int width, long v) {
        return with(row, at, width, BigInteger.valueOf(v));
    }

    /** Puts the bytes on the tape, eight by each call. */
    static void lay(WeightFile x, byte[] row) {
        x.end(0);
        byte[] eights = Arrays.copyOf(row, (row.length + 7) / 8 * 8);
        for (int i = 0; i < eights.length; i += 8) {
            x.feed(new BigInteger(Arrays.copyOfRange(eights, i, i + 8)).longValue());
        }
        x.end(row.length);
    }

    /** Puts the bytes on the tape where what is printed differs in few of them: for sets too long to lay. */
    static void layOver(WeightFile x, byte[] printed, byte[] row) {
        x.copy();
        for (int i = 0; i < row.length; i++) {
            if (row[i] != printed[i]) {
                x.poke(i, row[i]);
            }
        }
    }

    static String text(byte[] row) {
        StringBuilder all = new StringBuilder();
        for (byte b : row) {
            all.append(b & 255).append(' ');
        }
        return all.toString();
    }
}
