import java.util.ArrayList;
import java.util.List;

/**
 * A run of calls, played on a new object whenever something is asked about its end: so no question comes behind an
 * object's 512th call, where each answer is free, and no question can spoil the next one.
 */
final class Run {
    static final int MOST_CALLS = 512;
    private static final int MOST_UNDONE = 6;

    record Call(String name, int... with) {
        int on(LongestPast x) {
            switch (name) {
                case "type": return x.type(with[0]);
                case "clear": return x.clear();
                case "begins": return x.begins(with[0], with[1], with[2], with[3]);
                case "packs": return x.packs(with[0]);
                case "word": return x.word();
                case "cuts": return x.cuts(with[0]);
                case "undo": return x.undo();
                case "sign": return x.sign(with[0]);
                case "count": return x.count(with[0], with[1], with[2], with[3], with[4]);
                case "bit": return x.bit(with[0]);
                case "chance": return x.chance(with[0], with[1]);
                case "escapes": return x.escapes(with[0], with[1]);
                case "likeliest": return x.likeliest();
                case "length": return x.length();
                case "best": return x.best();
                case "unpacked": return x.unpacked(with[0]);
                case "agrees": return x.agrees();
                case "keep": return x.keep(with[0]);
                case "back": return x.back(with[0]);
                case "told": return x.told(with[0]);
                default: throw new IllegalArgumentException(name);
            }
        }

        @Override
        public String toString() {
            StringBuilder text = new StringBuilder(name).append('(');
            for (int i = 0; i < with.length; i++) text.append(i == 0 ? "" : ", ").append(with[i]);
            return text.append(')').toString();
        }
    }

    private final List<Call> calls;
    private String seen = null;

    private Run(List<Call> calls) {
        this.calls = calls;
    }

    static Run none() {
        return new Run(List.of());
    }

    /** begins(), then each letter of a text PACKED by a packs() of its own. */
    static Run packing(int order, int limit, int room, int tail, String text) {
        return none().then("begins", order, limit, room, tail).packs(text);
    }

    Run then(String name, int... with) {
        return then(new Call(name, with));
    }

    Run then(Call call) {
        List<Call> more = new ArrayList<>(calls);
        more.add(call);
        return new Run(more);
    }

    Run types(String letters) {
        Run run = this;
        for (char letter : letters.toCharArray()) run = run.then("type", letter);
        return run;
    }

    Run packs(String letters) {
        Run run = this;
        for (char letter : letters.toCharArray()) run = run.then("packs", letter - 'a');
        return run;
    }

    LongestPast played() {
        if (calls.size() >= MOST_CALLS) throw new IllegalStateException("no call is left to ask by");
        LongestPast x = new LongestPast();
        for (Call call : calls) call.on(x);
        return x;
    }

    int answers(String name, int... with) {
        return answers(new Call(name, with));
    }

    int answers(Call call) {
        return call.on(played());
    }

    int told(int what) {
        return answers("told", what);
    }

    String text() {
        return Due.textOf(played());
    }

    String bits() {
        return Due.bitsOf(played());
    }

    /** All SIGNS that THE TEXT unpacks to. */
    String unpacked() {
        LongestPast x = played();
        StringBuilder signs = new StringBuilder();
        for (int i = 0; i < 60; i++) signs.append((char) ('a' + x.unpacked(i)));
        return signs.toString();
    }

    /** All that can be learnt of the run's end: what is so, could be UNDONE, is kept in IMAGES, was typed. */
    String seen() {
        if (seen != null) return seen;
        StringBuilder all = new StringBuilder();
        asks(all, "now", asked());
        Run undone = this;
        for (int k = 1; k <= MOST_UNDONE + 1; k++) {
            undone = undone.answeredInto(all, "undo");
            undone.asks(all, "undone " + k, undone.state());
        }
        Run typed = answeredInto(all, "word");
        typed.asks(all, "word", typed.state());
        for (int image = 0; image < 2; image++) {
            Run kept = answeredInto(all, "back", image);
            kept.asks(all, "image " + image, kept.state());
        }
        seen = all.toString();
        return seen;
    }

    private Run answeredInto(StringBuilder all, String name, int... with) {
        all.append(new Call(name, with)).append(' ').append(answers(name, with)).append('\n');
        return then(name, with);
    }

    private void asks(StringBuilder all, String when, List<Call> questions) {
        LongestPast x = played();
        int left = MOST_CALLS - calls.size();
        for (Call question : questions) {
            if (left == 0) {
                x = played();
                left = MOST_CALLS - calls.size();
            }
            all.append(when).append(": ").append(question).append(' ').append(question.on(x)).append('\n');
            left--;
        }
    }

    /** Those questions that tell ORDER, LIMIT, ROOM, TAIL, TEXT SO FAR and THE BITS. */
    private List<Call> state() {
        List<Call> questions = new ArrayList<>();
        for (int what = 0; what <= 12; what++) questions.add(new Call("told", what));
        int signs = told(0);
        int bits = told(3);
        for (int i = 0; i <= signs; i++) questions.add(new Call("sign", i));
        for (int i = 0; i <= bits; i++) questions.add(new Call("bit", i));
        return questions;
    }

    private List<Call> asked() {
        List<Call> questions = state();
        int order = told(7);
        for (int j = 0; j <= order; j++) counts(questions, j);
        for (int sign = 0; sign < 4; sign++) {
            for (int what = 0; what < 2; what++) {
                questions.add(new Call("chance", sign, what));
                questions.add(new Call("escapes", sign, what));
            }
        }
        for (String name : List.of("likeliest", "length", "best", "agrees")) questions.add(new Call(name));
        for (int i = 0; i < 60; i++) questions.add(new Call("unpacked", i));
        return questions;
    }

    private static void counts(List<Call> questions, int j) {
        for (int code = 0; code < 1 << 2 * j; code++) {
            int[] c = new int[3];
            for (int i = 0; i < j; i++) c[i] = code >> 2 * (j - 1 - i) & 3;
            for (int sign = 0; sign < 4; sign++) questions.add(new Call("count", j, c[0], c[1], c[2], sign));
        }
    }
}
