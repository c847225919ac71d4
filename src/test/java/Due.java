/** Counts the answers that are not the ones due, for the tests beside it. */
final class Due {
    private static int asked = 0;
    private static int wrong = 0;

    private Due() {
    }

    static void due(String call, long got, long want) {
        asked++;
        if (got == want) return;
        wrong++;
        if (wrong <= 50) System.out.println(call + " answered " + got + ", due is " + want);
    }

    static void must(String what, boolean holds) {
        due(what, holds ? 1 : 0, 1);
    }

    static void text(String what, String got, String want) {
        asked++;
        if (got.equals(want)) return;
        wrong++;
        if (wrong <= 50) System.out.println(what + " is " + got + ", due is " + want);
    }

    /** A call behind a run is refused by a number, and nothing that can be asked is another one behind it. */
    static void refused(Run run, int want, String name, int... with) {
        Run.Call call = new Run.Call(name, with);
        due(call + " refused", run.answers(call), want);
        changesNothing(run, call);
    }

    static void changesNothing(Run run, Run.Call call) {
        String[] was = run.seen().split("\n");
        String[] is = run.then(call).seen().split("\n");
        int i = 0;
        while (i < was.length && i < is.length && was[i].equals(is[i])) i++;
        text("behind " + call, i < is.length ? is[i] : "", i < was.length ? was[i] : "");
    }

    /** CHANCE of a SIGN at the end of a run. */
    static void chance(Run run, int sign, int upper, int lower) {
        due("upper of " + sign + " behind " + run.text(), run.answers("chance", sign, 0), upper);
        due("lower of " + sign + " behind " + run.text(), run.answers("chance", sign, 1), lower);
    }

    /** THE BITS, OWED, LOW and HIGH at the end of a run. */
    static void written(Run run, String bits, int owed, int low, int high) {
        text("bits of " + run.text(), run.bits(), bits);
        due("how many bits of " + run.text(), run.told(3), bits.length());
        due("OWED of " + run.text(), run.told(4), owed);
        due("LOW of " + run.text(), run.told(5), low);
        due("HIGH of " + run.text(), run.told(6), high);
    }

    /** Types each letter of a text; nothing is checked. */
    static void types(LongestPast x, String text) {
        for (int i = 0; i < text.length(); i++) x.type(text.charAt(i));
    }

    /** A new object on which begins() and one word() were called. */
    static LongestPast packed(int order, int limit, int room, int tail, String text) {
        LongestPast x = new LongestPast();
        x.begins(order, limit, room, tail);
        types(x, text);
        x.word();
        return x;
    }

    /** TEXT SO FAR, told as letters. */
    static String textOf(LongestPast x) {
        StringBuilder text = new StringBuilder();
        for (int i = 0; i < x.told(0); i++) text.append((char) ('a' + x.sign(i)));
        return text.toString();
    }

    static String bitsOf(LongestPast x) {
        StringBuilder bits = new StringBuilder();
        for (int i = 0; i < x.told(3); i++) bits.append(x.bit(i));
        return bits.toString();
    }

    static void ends(String test) {
        System.out.println(test + ": " + asked + " answers, " + wrong + " not as due");
        if (wrong != 0 || asked == 0) System.exit(1);
    }
}
