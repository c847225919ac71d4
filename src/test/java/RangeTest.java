import java.util.Random;

/** LOW, HIGH and VALUE at the very edges of the quarters, against the Model. */
public final class RangeTest {
    public static void main(String[] args) {
        texts();
        rows();
        Due.ends("RangeTest");
    }

    /** Found by search: in each of these LOW or HIGH meets 16384, 32767, 32768, 49151 or 49152 just so. */
    private static void texts() {
        compares(2, 4, 6, 0, "b");
        compares(0, 2, 8, 3, "bcccddbb");
        compares(1, 6, 7, 4, "cbaadc");
        compares(1, 6, 16, 2, "bcbbbbbbb");
        compares(1, 3, 8, 3, "dbaacd");
        compares(3, 5, 8, 0, "cdd");
    }

    private static void compares(int order, int limit, int room, int tail, String text) {
        LongestPast x = Due.packed(order, limit, room, tail, text);
        Model m = new Model();
        m.begins(order, limit, room, tail);
        m.letters = text;
        m.word();
        Due.must(text + ": bits", Due.bitsOf(x).equals(m.now().bits.toString()));
        for (int i = 0; i <= 12; i++) Due.due(text + ": told(" + i + ")", x.told(i), m.told(i));
        Due.due(text + ": agrees()", x.agrees(), text.length());
    }

    /** Bits that nobody packed: all 60 SIGNS of each row. */
    private static void rows() {
        Random random = new Random(17);
        for (int run = 0; run < 1500; run++) {
            int order = random.nextInt(4);
            int limit = 2 + random.nextInt(14);
            int room = 4 + random.nextInt(random.nextBoolean() ? 57 : 8);
            int tail = random.nextInt(10);
            int ones = 1 + random.nextInt(9);
            StringBuilder bits = new StringBuilder();
            for (int i = random.nextInt(201); i > 0; i--) bits.append(random.nextInt(10) < ones ? 1 : 0);
            Model m = new Model();
            m.begins(order, limit, room, tail);
            String want = m.unpack(bits.toString(), 60);
            LongestPast x = new LongestPast();
            x.begins(order, limit, room, tail);
            Due.types(x, bits.toString());
            for (int i = 0; i < 60; i++) Due.due("row " + run + ": unpacked(" + i + ")", x.unpacked(i), want.charAt(i) - 'a');
        }
    }
}
