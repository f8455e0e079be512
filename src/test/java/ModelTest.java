import java.math.BigInteger;
import java.util.Arrays;
import java.util.Random;

/** Runs of up to 512 calls, each answer compared with that of a slow model written from the document. */
public final class ModelTest {
    private static final int RUNS = 4000;
    private static final int CALLS = 512;
    private static final int CALLS_AT_ONCE = 6;

    private interface Asked {
        long run();
    }

    /** The document's words, with whole numbers and plain arrays; an exception is told by its name. */
    private static final class Model {
        private static final String INDEX = "throws.IndexOutOfBoundsException";
        private static final String ARGUMENT = "throws.IllegalArgumentException";
        private static final String STATE = "throws.IllegalStateException";

        private int p = 0;
        private long steps = 0;
        private BigInteger[][] numbers = new BigInteger[2][0];
        private int[] print = {};
        private int[] tape = {};
        private int place = -1;

        String take(int p, int many) {
            if (p < 0 || p > 64 || many < 0 || many > 4096) {
                return ARGUMENT;
            }
            this.p = p;
            steps = 0;
            numbers = new BigInteger[2][many];
            Arrays.fill(numbers[0], BigInteger.ZERO);
            Arrays.fill(numbers[1], BigInteger.ZERO);
            return "0";
        }

        private boolean isNumber(int which, int i) {
            return (which == 0 || which == 1) && i >= 0 && i < numbers[0].length;
        }

        private boolean mayBe(BigInteger v) {
            return v.abs().compareTo(BigInteger.TWO.pow(15 + p)) < 0;
        }

        String put(int which, int i, int high, long low) {
            if (!isNumber(which, i)) {
                return INDEX;
            }
            BigInteger v = BigInteger.valueOf(high).multiply(BigInteger.TWO.pow(64))
                    .add(new BigInteger(Long.toUnsignedString(low)));
            if (!mayBe(v)) {
                return ARGUMENT;
            }
            numbers[which][i] = v;
            return "0";
        }

        String limb(int which, int i, int k) {
            if (!isNumber(which, i) || k < 0 || k > 2) {
                return INDEX;
            }
            return "" + numbers[which][i].shiftRight(32 * k).intValue();
        }

        String count(int n) {
            if (n < 0 || n > 2000000000) {
                return ARGUMENT;
            }
            String before = "" + steps;
            steps = n;
            return before;
        }

        private int width() {
            return (p + 23) / 8;
        }

        private static void write(int[] row, int at, int width, BigInteger v) {
            for (int k = 0; k < width; k++) {
                row[at + k] = v.shiftRight(8 * (width - 1 - k)).and(BigInteger.valueOf(255)).intValue();
            }
        }

        private static BigInteger read(int[] row, int at, int width) {
            BigInteger v = BigInteger.ZERO;
            for (int k = 0; k < width; k++) {
                v = v.multiply(BigInteger.valueOf(256)).add(BigInteger.valueOf(row[at + k]));
            }
            return v;
        }

        private static BigInteger check(int[] row, int length) {
            long c = 0xFFFFFFFFL;
            for (int i = 0; i < length; i++) {
                c ^= row[i];
                for (int k = 0; k < 8; k++) {
                    boolean went = c % 2 == 1;
                    c /= 2;
                    c ^= went ? 0xEDB88320L : 0;
                }
            }
            return BigInteger.valueOf(c ^ 0xFFFFFFFFL);
        }

        private int length() {
            return 13 + 2 * numbers[0].length * width() + 4;
        }

        String save() {
            print = new int[length()];
            write(print, 0, 4, BigInteger.valueOf(0x4554310A));
            write(print, 4, 4, BigInteger.valueOf(steps));
            write(print, 8, 4, BigInteger.valueOf(numbers[0].length));
            write(print, 12, 1, BigInteger.valueOf(p));
            int at = 13;
            for (BigInteger[] row : numbers) {
                for (BigInteger v : row) {
                    write(print, at, width(), v);
                    at += width();
                }
            }
            write(print, at, 4, check(print, at));
            return "" + print.length;
        }

        String printed(int i) {
            return i < 0 || i >= print.length ? INDEX : "" + print[i];
        }

        String feed(long v) {
            if (tape.length + 8 > 90000) {
                return STATE;
            }
            tape = Arrays.copyOf(tape, tape.length + 8);
            write(tape, tape.length - 8, 8, BigInteger.valueOf(v));
            return "" + tape.length;
        }

        String end(int n) {
            if (n < 0 || n > tape.length) {
                return ARGUMENT;
            }
            tape = Arrays.copyOf(tape, n);
            return "0";
        }

        String copy() {
            tape = print.clone();
            return "" + tape.length;
        }

        String poke(int i, int b) {
            if (i < 0 || i >= tape.length) {
                return INDEX;
            }
            String before = "" + tape[i];
            tape[i] = Math.floorMod(b, 256);
            return before;
        }

        String restore() {
            int[] row = tape;
            tape = new int[0];
            BigInteger[][] read = new BigInteger[2][numbers[0].length];
            place = placeOf(row, read);
            if (place != -1) {
                return ARGUMENT;
            }
            numbers = read;
            steps = read(row, 4, 4).longValue();
            return "" + steps;
        }

        private int placeOf(int[] row, BigInteger[][] into) {
            if (row.length != length()) {
                return row.length;
            }
            int[] beginning = {69, 84, 49, 10};
            for (int i = 0; i < 4; i++) {
                if (row[i] != beginning[i]) {
                    return i;
                }
            }
            if (read(row, 4, 4).longValue() > 2000000000L) {
                return 4;
            }
            if (read(row, 8, 4).longValue() != into[0].length) {
                return 8;
            }
            if (row[12] != p) {
                return 12;
            }
            int at = 13;
            for (BigInteger[] half : into) {
                for (int i = 0; i < half.length; i++) {
                    BigInteger v = read(row, at, width());
                    half[i] = row[at] >= 128 ? v.subtract(BigInteger.TWO.pow(8 * width())) : v;
                    if (!mayBe(half[i])) {
                        return at;
                    }
                    at += width();
                }
            }
            return read(row, at, 4).equals(check(row, at)) ? -1 : at;
        }

        String told(int what) {
            long[] all = {numbers[0].length, steps, p, tape.length};
            return "" + (what < 0 || what > 3 ? -1 : all[what]);
        }
    }

    private final Random random;
    private final WeightFile x = new WeightFile();
    private final Model model = new Model();
    private final String run;
    private int calls = 0;

    private ModelTest(int seed) {
        random = new Random(seed);
        run = "run " + seed + ": ";
    }

    public static void main(String[] args) {
        for (int seed = 0; seed < RUNS; seed++) {
            ModelTest test = new ModelTest(seed);
            while (test.calls + CALLS_AT_ONCE <= CALLS) {
                test.callSome();
            }
        }
        Due.finish();
    }

    private void callSome() {
        switch (random.nextInt(24)) {
            case 0:
                take();
                break;
            case 1: case 2: case 3: case 4:
                put();
                break;
            case 5: case 6: case 7:
                limb();
                break;
            case 8:
                count();
                break;
            case 9: case 10:
                same("save()", x::save, model.save());
                break;
            case 11: case 12:
                int i = index(model.print.length);
                same("printed(" + i + ")", () -> x.printed(i), model.printed(i));
                break;
            case 13:
                long v = random.nextLong();
                same("feed(" + v + ")", () -> x.feed(v), model.feed(v));
                break;
            case 14:
                int n = index(model.tape.length + 1);
                same("end(" + n + ")", () -> {
                    x.end(n);
                    return 0;
                }, model.end(n));
                break;
            case 15: case 16: case 17:
                same("copy()", x::copy, model.copy());
                break;
            case 18: case 19:
                poke();
                break;
            case 20: case 21:
                same("restore()", x::restore, model.restore());
                same("place()", x::place, "" + model.place);
                break;
            case 22:
                mendCheck();
                break;
            default:
                int what = index(4);
                same("told(" + what + ")", () -> x.told(what), model.told(what));
        }
    }

    private void same(String call, Asked asked, String want) {
        calls++;
        String got;
        try {
            got = "" + asked.run();
        } catch (RuntimeException e) {
            got = "throws." + e.getClass().getSimpleName();
        }
        Due.same(run + call, got, want);
    }

    /** Mostly 0 .. many - 1, sometimes beside it, sometimes anything. */
    private int index(int many) {
        int kind = random.nextInt(12);
        if (kind == 0) {
            return random.nextBoolean() ? -1 : many;
        }
        if (kind == 1 && random.nextInt(3) == 0) {
            return random.nextInt();
        }
        return many == 0 ? 0 : random.nextInt(many);
    }

    private void take() {
        int p = index(65);
        int many = random.nextInt(300) == 0 ? index(4097) : index(4);
        same("take(" + p + ", " + many + ")", () -> {
            x.take(p, many);
            return 0;
        }, model.take(p, many));
    }

    private BigInteger number() {
        int bits = random.nextInt(6) == 0 ? random.nextInt(95) : 15 + model.p;
        BigInteger v = random.nextBoolean()
                ? BigInteger.TWO.pow(bits).subtract(BigInteger.valueOf(random.nextInt(3)))
                : new BigInteger(bits, random);
        return random.nextBoolean() ? v.negate() : v;
    }

    private void put() {
        int which = index(2);
        int i = index(model.numbers[0].length);
        BigInteger v = number();
        int high = v.shiftRight(64).intValue();
        long low = v.longValue();
        same("put(" + which + ", " + i + ", " + high + ", " + low + ")", () -> {
            x.put(which, i, high, low);
            return 0;
        }, model.put(which, i, high, low));
    }

    private void limb() {
        int which = index(2);
        int i = index(model.numbers[0].length);
        int k = index(3);
        same("limb(" + which + ", " + i + ", " + k + ")", () -> x.limb(which, i, k), model.limb(which, i, k));
    }

    private void count() {
        int n = random.nextInt(4) == 0 ? 2000000000 + random.nextInt(3) : index(2000000001);
        same("count(" + n + ")", () -> x.count(n), model.count(n));
    }

    private void poke() {
        int i = random.nextInt(3) == 0 ? index(13) : index(model.tape.length);
        int b = random.nextBoolean() ? random.nextInt() : new int[] {0, 1, 127, 128, 255}[random.nextInt(5)];
        same("poke(" + i + ", " + b + ")", () -> x.poke(i, b), model.poke(i, b));
    }

    /** Without it hardly a tape that was changed would ever be taken. */
    private void mendCheck() {
        int at = model.tape.length - 4;
        if (at < 0) {
            take();
            return;
        }
        int check = Model.check(model.tape, at).intValue();
        for (int k = 0; k < 4; k++) {
            int i = at + k;
            int b = check >> (24 - 8 * k);
            same("poke(" + i + ", " + b + ")", () -> x.poke(i, b), model.poke(i, b));
        }
        same("restore()", x::restore, model.restore());
        same("place()", x::place, "" + model.place);
    }
}
