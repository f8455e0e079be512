import java.math.BigInteger;

/** README.md's example, line by line, does what its comments say. */
public final class ReadmeTest {
    public static void main(String[] args) {
        WeightFile file = new WeightFile();
        file.take(16, 2);
        file.put(0, 0, 0, 65536L);
        file.put(1, 1, -1, -32768L);
        file.count(7);

        int many = file.save();
        Due.same("how many bytes", many, 33);
        Due.same("the first byte", file.printed(0), 69);
        Due.same("the last byte", file.printed(many - 1), SetBytes.of(16, 7, numbers())[32] & 255);

        file.copy();
        Due.same("the steps", file.restore(), 7);
        Due.same("the lowest limb of 1.0", file.limb(0, 0, 0), 65536);
        Due.same("the lowest limb of -0.5", file.limb(1, 1, 0), -32768);

        file.copy();
        file.poke(12, 17);
        Due.thrown("a tape with another p", IllegalArgumentException.class, () -> file.restore());
        Due.same("the first place that is wrong", file.place(), 12);
        Due.same("the set is as it was", file.limb(0, 0, 0), 65536);
        Due.finish();
    }

    private static BigInteger[] numbers() {
        BigInteger[] all = SetBytes.zeros(2);
        all[0] = BigInteger.valueOf(65536);
        all[3] = BigInteger.valueOf(-32768);
        return all;
    }
}
