/**
 * What the calls of the face show of an object. A script makes the object anew for every few
 * questions, so that none is asked beyond the 512 calls of which the document speaks.
 */
final class Shown {
    interface Script {
        void run(WeightFile x);
    }

    private interface Question {
        int ask(WeightFile x, int i);
    }

    private static final int ASKED_AT_ONCE = 400;

    private Shown() {
    }

    static WeightFile made(Script script) {
        WeightFile x = new WeightFile();
        script.run(x);
        return x;
    }

    static String all(Script script) {
        return allButPlaceAndTape(script) + place(script) + tape(script);
    }

    static String allButPlaceAndTape(Script script) {
        return set(script) + " printed " + printed(script);
    }

    static String set(Script script) {
        WeightFile x = made(script);
        int many = x.told(0);
        String head = "parameters " + many + " steps " + x.told(1) + " p " + x.told(2)
                + " others " + x.told(-1) + " " + x.told(4) + " counted " + x.count(0);
        String limbs = " limbs " + answers(script, 6 * many, (y, q) -> y.limb(q / 3 / many, q / 3 % many, q % 3));
        String behind = answer(made(script), (y, q) -> y.limb(1, many, 0), 0);
        return head + limbs + behind + " saves " + printed(y -> {
            script.run(y);
            y.save();
        });
    }

    static String printed(Script script) {
        int many = made(script).copy();
        String bytes = answers(script, many, WeightFile::printed);
        return bytes + answer(made(script), WeightFile::printed, many);
    }

    /** What is told where these bytes are printed, and no more. */
    static String printed(byte[] row) {
        return SetBytes.text(row) + "throws.IndexOutOfBoundsException";
    }

    static String tape(Script script) {
        int many = made(script).told(3);
        return " tape " + many + " " + bytesOfTape(script) + answer(made(script), (y, i) -> y.poke(i, 0), many)
                + " fed " + answer(made(script), (y, i) -> y.feed(0), 0);
    }

    static String bytesOfTape(Script script) {
        return answers(script, made(script).told(3), (y, i) -> y.poke(i, 0));
    }

    static String place(Script script) {
        return " place " + made(script).place();
    }

    private static String answers(Script script, int many, Question question) {
        StringBuilder all = new StringBuilder();
        WeightFile x = null;
        for (int i = 0; i < many; i++) {
            if (i % ASKED_AT_ONCE == 0) {
                x = made(script);
            }
            all.append(answer(x, question, i)).append(' ');
        }
        return all.toString();
    }

    private static String answer(WeightFile x, Question question, int i) {
        try {
            return Integer.toString(question.ask(x, i));
        } catch (RuntimeException e) {
            return "throws." + e.getClass().getSimpleName();
        }
    }
}
