/**
 * "Nothing is promised beyond the answers and state changes described": a call that is answered changes
 * what its promise says and leaves all else as it was. RefusedCallsTest asks this of calls that throw.
 */
public final class KeptTest {
    public static void main(String[] args) {
        for (States state : States.values()) {
            KeptTest test = new KeptTest(state);
            test.asMade();
            test.asking();
            test.take();
            test.put();
            test.count();
            test.save();
            test.feed();
            test.end();
            test.copy();
            test.poke();
            test.restore();
        }
        Due.finish();
    }

    private final States state;
    private final int many;
    private final int onTape;
    private final String set;
    private final String printed;
    private final String tape;
    private final String bytesOfTape;
    private final String place;

    private KeptTest(States state) {
        this.state = state;
        many = state.many;
        onTape = Shown.made(state::make).told(3);
        set = Shown.set(state::make);
        printed = Shown.printed(state::make);
        tape = Shown.tape(state::make);
        bytesOfTape = Shown.bytesOfTape(state::make);
        place = Shown.place(state::make);
    }

    /** What the other tests compare with is itself what the document asks for. */
    private void asMade() {
        WeightFile x = Shown.made(state::make);
        Due.same(state + ": place", x.place(), state.place);
        Due.same(state + ": parameters", x.told(0), many);
        Due.same(state + ": p", x.told(2), state.p);
        Due.same(state + ": what is printed", printed, Shown.printed(state.printed()));
        Due.same(state + ": the tape", bytesOfTape, SetBytes.text(state.tape()));
        Due.same(state + ": the set", Shown.printed(after(y -> y.save())), Shown.printed(state.set()));
    }

    // limb, printed, place and told only answer. Each is asked alone, as two changes might undo each other.
    private void asking() {
        for (int i = many - 1; i >= 0 && i >= many - 2; i--) {
            int last = i;
            for (int k = 0; k < 3; k++) {
                int limb = k;
                allStays("limb of a weight", x -> x.limb(0, last, limb));
                allStays("limb of a velocity", x -> x.limb(1, last, limb));
            }
        }
        int length = state.printed().length;
        if (length > 0) {
            allStays("printed, the first", x -> x.printed(0));
            allStays("printed, the last", x -> x.printed(length - 1));
        }
        allStays("place", x -> x.place());
        for (int what = -1; what <= 4; what++) {
            int asked = what;
            allStays("told", x -> x.told(asked));
        }
    }

    private void take() {
        for (int[] other : new int[][] {{0, 0}, {state.p, many}, {64, 4096}}) {
            Shown.Script call = x -> x.take(other[0], other[1]);
            printedStays("take", call);
            tapeStays("take", call);
            placeStays("take", call);
        }
    }

    private void put() {
        if (many == 0) {
            return;
        }
        for (int which = 0; which < 2; which++) {
            for (int i : new int[] {0, many - 1}) {
                int kind = which;
                Shown.Script call = x -> x.put(kind, i, 1, 3);
                printedStays("put", call);
                tapeStays("put", call);
                placeStays("put", call);
                allStays("put, and back", x -> {
                    int high = x.limb(kind, i, 2);
                    long low = (long) x.limb(kind, i, 1) << 32 | x.limb(kind, i, 0) & 0xFFFFFFFFL;
                    x.put(kind, i, 1, 3);
                    x.put(kind, i, high, low);
                });
            }
        }
    }

    private void count() {
        Shown.Script call = x -> x.count(12345);
        printedStays("count", call);
        tapeStays("count", call);
        placeStays("count", call);
        allStays("count, and back", x -> {
            int before = x.count(12345);
            x.count(before);
        });
    }

    private void save() {
        Shown.Script call = x -> x.save();
        setStays("save", call);
        tapeStays("save", call);
        placeStays("save", call);
    }

    private void feed() {
        Shown.Script call = x -> x.feed(0x99AABBCCDDEEFF00L);
        setStays("feed", call);
        printedStays("feed", call);
        placeStays("feed", call);
        allStays("feed, and back", x -> {
            x.feed(0x99AABBCCDDEEFF00L);
            x.end(onTape);
        });
    }

    private void end() {
        for (int n : new int[] {0, onTape / 2, onTape}) {
            Shown.Script call = x -> x.end(n);
            setStays("end", call);
            printedStays("end", call);
            placeStays("end", call);
            Due.same(state + ": end keeps the first " + n, Shown.bytesOfTape(after(call)), firstBytes(n));
        }
    }

    private void copy() {
        Shown.Script call = x -> x.copy();
        setStays("copy", call);
        printedStays("copy", call);
        placeStays("copy", call);
    }

    private void poke() {
        if (onTape == 0) {
            return;
        }
        for (int i : new int[] {0, onTape / 2, onTape - 1}) {
            Shown.Script call = x -> x.poke(i, 77);
            setStays("poke", call);
            printedStays("poke", call);
            placeStays("poke", call);
            allStays("poke, and back", x -> {
                int before = x.poke(i, 77);
                x.poke(i, before);
            });
        }
    }

    /** That the set is the tape's then, and that there is no place, RestoreTest asks. */
    private void restore() {
        Shown.Script call = x -> {
            if (state == States.NEW) {
                SetBytes.lay(x, SetBytes.of(0, 9));
            } else {
                x.copy();
            }
            x.restore();
        };
        printedStays("restore", call);
        WeightFile x = Shown.made(after(call));
        Due.same(state + ": restore, the parameters", x.told(0), many);
        Due.same(state + ": restore, p", x.told(2), state.p);
    }

    private Shown.Script after(Shown.Script call) {
        return x -> {
            state.make(x);
            call.run(x);
        };
    }

    private void allStays(String what, Shown.Script call) {
        setStays(what, call);
        printedStays(what, call);
        tapeStays(what, call);
        placeStays(what, call);
    }

    private void setStays(String what, Shown.Script call) {
        Due.same(state + ": " + what + ", the set", Shown.set(after(call)), set);
    }

    private void printedStays(String what, Shown.Script call) {
        Due.same(state + ": " + what + ", what is printed", Shown.printed(after(call)), printed);
    }

    private void tapeStays(String what, Shown.Script call) {
        Due.same(state + ": " + what + ", the tape", Shown.tape(after(call)), tape);
    }

    private void placeStays(String what, Shown.Script call) {
        Due.same(state + ": " + what + ", the place", Shown.place(after(call)), place);
    }

    private String firstBytes(int n) {
        String[] all = bytesOfTape.split(" ");
        StringBuilder first = new StringBuilder();
        for (int i = 0; i < n; i++) {
            first.append(all[i]).append(' ');
        }
        return first.toString();
    }
}
