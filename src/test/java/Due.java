/** Counts the answers that are not the ones due, for the tests beside it. */
final class Due {
    private static int asked = 0;
    private static int wrong = 0;

    private Due() {
    }

    static void due(String call, long got, long want) {
        asked++;
        if (got == want) return;
        wrong++;
        if (wrong <= 50) System.out.println(call + " answered " + got + ", due is " + want);
    }

    static void must(String what, boolean holds) {
        due(what, holds ? 1 : 0, 1);
    }

    /** Types each letter of a text; nothing is checked. */
    static void types(LongestPast x, String text) {
        for (int i = 0; i < text.length(); i++) x.type(text.charAt(i));
    }

    /** A new object on which begins() and one word() were called. */
    static LongestPast packed(int order, int limit, int room, int tail, String text) {
        LongestPast x = new LongestPast();
        x.begins(order, limit, room, tail);
        types(x, text);
        x.word();
        return x;
    }

    /** TEXT SO FAR, told as letters. */
    static String textOf(LongestPast x) {
        StringBuilder text = new StringBuilder();
        for (int i = 0; i < x.told(0); i++) text.append((char) ('a' + x.sign(i)));
        return text.toString();
    }

    static String bitsOf(LongestPast x) {
        StringBuilder bits = new StringBuilder();
        for (int i = 0; i < x.told(3); i++) bits.append(x.bit(i));
        return bits.toString();
    }

    static void ends(String test) {
        System.out.println(test + ": " + asked + " answers, " + wrong + " not as due");
        if (wrong != 0 || asked == 0) System.exit(1);
    }
}
