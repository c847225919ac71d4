import java.util.ArrayList;
import java.util.List;

/**
 * "Refused, and nothing changes, the first of these that is so: BAD (a number is not as told, or there is no such
 * thing), STATE (as told), FULL." Each refusal, behind runs that leave very different things to be spoilt.
 */
public final class RefusedTest {
    private static final int LEAST = Integer.MIN_VALUE, MOST = Integer.MAX_VALUE;
    private static final int BAD = LongestPast.BAD, STATE = LongestPast.STATE, FULL = LongestPast.FULL;

    private static final Run FRESH = Run.none();
    /** Both IMAGES kept, some to be UNDONE, something FORGOTTEN, letters typed. */
    private static final Run SOME = FRESH.then("begins", 3, 3, 6, 5).types("abcabdabcd").then("word").then("keep", 0)
        .then("cuts", 2).then("packs", 3).then("keep", 1).types("abca");
    /** 60 SIGNS, 200 letters, 6 to be UNDONE and older ones lost, one IMAGE kept. */
    private static final Run ALL = FRESH.then("begins", 2, 4, 9, 6).types("abcdbacdac".repeat(5)).then("word")
        .then("keep", 0).packs("bddcabcaad").types("abcd".repeat(50));
    /** Behind back(), with bits typed. */
    private static final Run BACK = FRESH.packs("dab").then("keep", 1).then("begins", 0, 2, 4, 0).then("back", 1)
        .types("0110100110");

    public static void main(String[] args) {
        runsAreAsTold();
        for (Run run : List.of(FRESH, SOME, ALL, BACK)) {
            for (Run.Call call : badCalls(run)) Due.refused(run, codeOfBad(call), call.name(), call.with());
            for (Run.Call call : askingCalls()) Due.changesNothing(run, call);
        }
        stateCalls();
        fullCalls();
        wrongLetters();
        badAheadOfState();
        badAheadOfFull();
        wrongLetterAheadOfFull();
        badAheadOfWrongLetter();
        Due.ends("RefusedTest");
    }

    /** The runs have what they are made for. */
    private static void runsAreAsTold() {
        Due.due("SOME: FORGOTTEN", SOME.told(2) > 0 ? 1 : 0, 1);
        Due.due("SOME: to be UNDONE", SOME.told(12), 4);
        Due.due("ALL: SIGNS", ALL.told(0), 60);
        Due.due("ALL: letters", ALL.told(11), 200);
        Due.due("ALL: to be UNDONE", ALL.told(12), 6);
        Due.due("BACK: SIGNS", BACK.told(0), 3);
        Due.due("BACK: to be UNDONE", BACK.told(12), 0);
    }

    private static int codeOfBad(Run.Call call) {
        return call.name().equals("packs") || call.name().equals("escapes") ? -5 : BAD;
    }

    private static List<Run.Call> badCalls(Run run) {
        List<Run.Call> calls = new ArrayList<>();
        for (int n : new int[] {-1, 256, LEAST, MOST}) calls.add(new Run.Call("type", n));
        for (int n : new int[] {-1, 4, LEAST, MOST}) calls.add(new Run.Call("packs", n));
        for (int n : new int[] {0, -1, LEAST}) calls.add(new Run.Call("cuts", n));
        int signs = run.told(0);
        for (int n : new int[] {-1, signs, signs + 1, LEAST, MOST}) calls.add(new Run.Call("sign", n));
        for (int n : new int[] {-1, LEAST}) calls.add(new Run.Call("bit", n));
        for (int n : new int[] {-1, 60, LEAST, MOST}) calls.add(new Run.Call("unpacked", n));
        for (int n : new int[] {-1, 13, LEAST, MOST}) calls.add(new Run.Call("told", n));
        for (String name : List.of("keep", "back")) {
            for (int n : new int[] {-1, 2, LEAST, MOST}) calls.add(new Run.Call(name, n));
        }
        for (String name : List.of("chance", "escapes")) {
            for (int n : new int[] {-1, 4, LEAST, MOST}) calls.add(new Run.Call(name, n, 0));
            for (int n : new int[] {-1, 2, LEAST, MOST}) calls.add(new Run.Call(name, 0, n));
        }
        badBegins(calls);
        badCounts(calls, run.told(7));
        return calls;
    }

    private static void badBegins(List<Run.Call> calls) {
        int[] good = {2, 7, 24, 4};
        int[][] bad = {{-1, 4, LEAST, MOST}, {1, 16, LEAST, MOST}, {3, 61, LEAST, MOST}, {-1, 10, LEAST, MOST}};
        for (int i = 0; i < 4; i++) {
            for (int n : bad[i]) {
                int[] with = good.clone();
                with[i] = n;
                calls.add(new Run.Call("begins", with));
            }
        }
    }

    private static void badCounts(List<Run.Call> calls, int order) {
        for (int j : new int[] {-1, order + 1, LEAST, MOST}) calls.add(new Run.Call("count", j, 0, 0, 0, 0));
        for (int n : new int[] {-1, 4, LEAST, MOST}) calls.add(new Run.Call("count", 0, 0, 0, 0, n));
        for (int j = 0; j <= order; j++) {
            for (int i = 0; i < 3; i++) {
                for (int n : i < j ? new int[] {-1, 4, LEAST, MOST} : new int[] {-1, 1, LEAST, MOST}) {
                    int[] with = {j, 0, 0, 0, 0};
                    with[1 + i] = n;
                    calls.add(new Run.Call("count", with));
                }
            }
        }
    }

    /** "(Nothing is changed.)", and what unpacked(), agrees() and told() only ask. */
    private static List<Run.Call> askingCalls() {
        return List.of(new Run.Call("sign", 0), new Run.Call("count", 0, 0, 0, 0, 0), new Run.Call("bit", 0),
            new Run.Call("bit", MOST), new Run.Call("chance", 3, 0), new Run.Call("chance", 0, 1),
            new Run.Call("escapes", 3, 0), new Run.Call("escapes", 0, 1), new Run.Call("likeliest"),
            new Run.Call("length"), new Run.Call("best"), new Run.Call("unpacked", 0), new Run.Call("unpacked", 59),
            new Run.Call("agrees"), new Run.Call("told", 0), new Run.Call("told", 12));
    }

    private static void stateCalls() {
        for (int n : new int[] {1, 2, MOST}) Due.refused(FRESH, STATE, "cuts", n);
        Due.refused(FRESH, STATE, "undo");
        Due.refused(FRESH, STATE, "back", 0);
        Due.refused(FRESH, STATE, "back", 1);
        for (int n : new int[] {10, 11, MOST}) Due.refused(SOME, STATE, "cuts", n);
        for (int n : new int[] {61, MOST}) Due.refused(ALL, STATE, "cuts", n);
        Due.refused(ALL, STATE, "back", 1);
        Due.refused(BACK, STATE, "cuts", 4);
        Due.refused(BACK, STATE, "undo");
        Due.refused(BACK, STATE, "back", 0);
    }

    private static void fullCalls() {
        for (int letter : new int[] {0, 97, 255}) Due.refused(ALL, FULL, "type", letter);
        for (int sign = 0; sign < 4; sign++) Due.refused(ALL, -6, "packs", sign);
        Due.refused(ALL, FULL, "word");
        Due.refused(ALL.then("clear").then("type", 97), FULL, "word");
        Due.refused(SOME.then("clear").types("a".repeat(52)), FULL, "word");
    }

    private static void wrongLetters() {
        Due.refused(BACK, -10, "word");
        Due.refused(SOME.then("type", 96), -14, "word");
        Due.refused(SOME.then("type", 101).types("x"), -14, "word");
        Due.refused(SOME, -10, "unpacked", 0);
        Due.refused(BACK.then("type", 47), -20, "unpacked", 59);
        Due.refused(BACK.then("type", 50).types("2"), -20, "unpacked", 0);
    }

    private static void badAheadOfState() {
        Due.refused(FRESH, BAD, "cuts", 0);
        Due.refused(FRESH, BAD, "cuts", -1);
        Due.refused(FRESH, BAD, "back", 2);
        Due.refused(FRESH, BAD, "back", -1);
    }

    private static void badAheadOfFull() {
        Due.refused(ALL, BAD, "type", 256);
        Due.refused(ALL, BAD, "type", -1);
        Due.refused(ALL, -5, "packs", 4);
        Due.refused(ALL, -5, "packs", -1);
    }

    /** "(so by FULL: TEXT SO FAR would have more than 60; told behind that)". */
    private static void wrongLetterAheadOfFull() {
        Run text = Run.packing(2, 7, 24, 4, "abcd".repeat(15));
        Due.refused(text.types("x"), -10, "word");
        Due.refused(text.types("ax"), -11, "word");
        Due.refused(text.types("a".repeat(199)).types("e"), -209, "word");
        Due.refused(text.types("a"), FULL, "word");
    }

    /** "BAD; behind that -10 less the place of the first letter that is neither". */
    private static void badAheadOfWrongLetter() {
        Run text = FRESH.types("2");
        Due.refused(text, BAD, "unpacked", 60);
        Due.refused(text, BAD, "unpacked", -1);
        Due.refused(text, -10, "unpacked", 59);
        Due.refused(text, -10, "unpacked", 0);
    }
}
