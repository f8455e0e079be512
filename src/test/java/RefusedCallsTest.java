import java.math.BigInteger;
import java.util.EnumMap;
import java.util.Map;

/**
 * "A call that throws changes nothing": after each refused call all that the other calls show is as
 * before. RestoreTest asks this of restore.
 */
public final class RefusedCallsTest {
    private static final Class<IllegalArgumentException> ARGUMENT = IllegalArgumentException.class;
    private static final Class<IndexOutOfBoundsException> INDEX = IndexOutOfBoundsException.class;
    private static final Class<IllegalStateException> STATE = IllegalStateException.class;

    private static final int MIN = Integer.MIN_VALUE;
    private static final int MAX = Integer.MAX_VALUE;

    private static final Map<States, String> BEFORE = new EnumMap<>(States.class);

    public static void main(String[] args) {
        for (States state : States.values()) {
            BEFORE.put(state, Shown.all(state::make));
            take(state);
            put(state);
            limb(state);
            count(state);
            printed(state);
            end(state);
            poke(state);
        }
        feed();
        Due.finish();
    }

    private static void take(States state) {
        refused(state, "take, p too small", ARGUMENT, x -> x.take(-1, 1));
        refused(state, "take, p too large", ARGUMENT, x -> x.take(65, 4096));
        refused(state, "take, many too small", ARGUMENT, x -> x.take(64, -1));
        refused(state, "take, many too large", ARGUMENT, x -> x.take(0, 4097));
        refused(state, "take, both too large", ARGUMENT, x -> x.take(MAX, MAX));
    }

    private static void put(States state) {
        int many = state.many;
        BigInteger limit = Numbers.limit(state.p);
        refused(state, "put, which too small", INDEX, x -> x.put(-1, many - 1, 0, 1));
        refused(state, "put, which too large", INDEX, x -> x.put(2, 0, 0, 1));
        refused(state, "put, weight too small", INDEX, x -> x.put(0, -1, 0, 1));
        refused(state, "put, weight too large", INDEX, x -> x.put(0, many, 0, 1));
        refused(state, "put, velocity too small", INDEX, x -> x.put(1, -1, 0, 1));
        refused(state, "put, velocity too large", INDEX, x -> x.put(1, many, 0, 1));
        if (many > 0) {
            refused(state, "put, number too large", ARGUMENT, x -> Numbers.put(x, 0, many - 1, limit));
            refused(state, "put, number too small", ARGUMENT, x -> Numbers.put(x, 1, many - 1, limit.negate()));
            refused(state, "put, greatest of all", ARGUMENT, x -> x.put(1, 0, MAX, -1));
            refused(state, "put, least of all", ARGUMENT, x -> x.put(0, 0, MIN, 0));
        }
    }

    private static void limb(States state) {
        int many = state.many;
        refused(state, "limb, which too small", INDEX, x -> x.limb(-1, many - 1, 0));
        refused(state, "limb, which too large", INDEX, x -> x.limb(2, 0, 0));
        refused(state, "limb, parameter too small", INDEX, x -> x.limb(1, -1, 0));
        refused(state, "limb, parameter too large", INDEX, x -> x.limb(0, many, 0));
        refused(state, "limb, limb too small", INDEX, x -> x.limb(0, 0, -1));
        refused(state, "limb, limb too large", INDEX, x -> x.limb(1, many - 1, 3));
    }

    private static void count(States state) {
        refused(state, "count, too small", ARGUMENT, x -> x.count(-1));
        refused(state, "count, too large", ARGUMENT, x -> x.count(2000000001));
    }

    private static void printed(States state) {
        int length = state.printed().length;
        refused(state, "printed, too small", INDEX, x -> x.printed(-1));
        refused(state, "printed, too large", INDEX, x -> x.printed(length));
    }

    private static void end(States state) {
        refused(state, "end, too small", ARGUMENT, x -> x.end(-1));
        refused(state, "end, too large", ARGUMENT, x -> x.end(x.told(3) + 1));
    }

    private static void poke(States state) {
        refused(state, "poke, too small", INDEX, x -> x.poke(-1, 99));
        refused(state, "poke, too large", INDEX, x -> x.poke(x.told(3), 99));
    }

    /** No 512 calls fill the tape: these go on behind them, as nothing else shows the tape's limit. */
    private static void feed() {
        for (int length : new int[] {89993, 90000}) {
            int start = 81937 - Math.floorMod(81937 - length, 8);
            int feeds = (length - start) / 8;
            Shown.Script fullTape = x -> {
                States.FULL.make(x);
                x.end(start);
                for (int k = 0; k < feeds; k++) {
                    x.feed(0x0102030405060708L);
                }
            };
            Due.same("the tape before", Shown.made(fullTape).told(3), length);
            refused("feed behind " + length, STATE, fullTape, Shown.all(fullTape), x -> x.feed(-1));
        }
    }

    private static void refused(States state, String what, Class<? extends RuntimeException> kind, Shown.Script wrong) {
        refused(state + ": " + what, kind, state::make, BEFORE.get(state), wrong);
    }

    private static void refused(String call, Class<? extends RuntimeException> kind, Shown.Script made, String before,
            Shown.Script wrong) {
        Due.thrown(call, kind, () -> wrong.run(Shown.made(made)));
        Due.same(call + ", then all", Shown.all(x -> {
            made.run(x);
            leaving(wrong, x);
        }), before);
    }

    private static void leaving(Shown.Script wrong, WeightFile x) {
        try {
            wrong.run(x);
        } catch (RuntimeException e) {
            // Which one it is was asked before; here counts only what it leaves.
        }
    }
}
