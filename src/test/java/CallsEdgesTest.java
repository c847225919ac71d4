import java.util.List;

/**
 * The boundaries that the promises 1 to 21 name, a test for each: at the boundary, one below it and one above it. That
 * a refused call changes nothing is RefusedTest's.
 */
public final class CallsEdgesTest {
    private static final int BAD = LongestPast.BAD, STATE = LongestPast.STATE, FULL = LongestPast.FULL;
    private static final int NONE = LongestPast.NONE, MOST = Integer.MAX_VALUE;
    private static final String SIXTY = "abcdbacdac".repeat(6);

    public static void main(String[] args) {
        promise1NothingPacked();
        promise2LettersFrom0To255();
        promise2FullAt200();
        promise3ClearOfNoneOneAndAll();
        promise4HowManyItHad();
        promise4LettersAndImagesStay();
        promise5FoundFromNoneToOrder();
        promise5FullAt60();
        promise6PlaceOfTheFirstWrongLetter();
        promise6FullAbove60();
        promise6WithoutLetters();
        promise6OneIsDone();
        promise7FromOneToAll();
        promise7AsIfNeverPacked();
        promise8SixAreKnown();
        promise8EachKind();
        promise8OlderOnesAreLost();
        promise8RefusedOnesAreNotKnown();
        promise8LettersDoNotComeAgain();
        promise9FromTheFirstToTheLast();
        promise10FirstJ();
        promise10BehindTheFirstJ();
        promise11FromTheFirstToTheLast();
        promise12LeastTerms();
        promise12SignAndWhat();
        promise13SignAndWhat();
        promise14OfSeveralTheLeast();
        promise15FromNothingOn();
        promise16OfSeveralTheLeast();
        promise17From0To59();
        promise17LettersOfBits();
        promise18FromNoneTo60();
        promise19Images0And1();
        promise20NoneWasKept();
        promise20NothingCanBeUndone();
        promise20NothingElse();
        promise21From0To12();
        promise21TheMostOfEach();
        Due.ends("CallsEdgesTest");
    }

    /** "ORDER 2, LIMIT 7, ROOM 24, TAIL 4; nothing PACKED." */
    private static void promise1NothingPacked() {
        int[] want = {0, 0, 0, 0, 0, 0, 65535, 2, 7, 24, 4, 0, 0};
        for (int what = 0; what < want.length; what++) Due.due("1: told " + what, Run.none().told(what), want[what]);
        Run begun = Run.none().then("begins", 2, 7, 24, 4).packs("abcabd");
        Run fresh = Run.none().packs("abcabd");
        Due.text("1: bits", fresh.bits(), begun.bits());
        for (int what = 0; what <= 10; what++) Due.due("1: told " + what, fresh.told(what), begun.told(what));
    }

    /** "A letter (0 .. 255)"; "BAD". */
    private static void promise2LettersFrom0To255() {
        int[] letters = {-2, -1, 0, 1, 254, 255, 256, 257};
        int[] want = {BAD, BAD, 1, 1, 1, 1, BAD, BAD};
        for (int i = 0; i < letters.length; i++) {
            Due.due("2: type(" + letters[i] + ")", Run.none().answers("type", letters[i]), want[i]);
        }
    }

    /** "how many it has"; "FULL: 200." */
    private static void promise2FullAt200() {
        Run run = Run.none().types("x".repeat(198));
        Due.due("2: the 199th", run.answers("type", 0), 199);
        Due.due("2: the 200th", run.types("x").answers("type", 0), 200);
        Due.due("2: the 201st", run.types("xx").answers("type", 0), FULL);
        Due.due("2: when it was cleared", run.types("xx").then("clear").answers("type", 0), 1);
    }

    /** "THE TEXT is empty: how many letters it had." */
    private static void promise3ClearOfNoneOneAndAll() {
        for (int many : new int[] {0, 1, 199, 200}) {
            Run run = Run.none().types("x".repeat(many));
            Due.due("3: clear() of " + many, run.answers("clear"), many);
            Due.due("3: empty", run.then("clear").told(11), 0);
            Due.due("3: again", run.then("clear").answers("clear"), 0);
        }
        Due.due("3: the letters are gone", Run.none().types("xa").then("clear").types("ab").answers("word"), 2);
    }

    /** "how many SIGNS TEXT SO FAR had." */
    private static void promise4HowManyItHad() {
        for (int many : new int[] {0, 1, 59, 60}) {
            Run run = Run.none().packs(SIXTY.substring(0, many));
            Due.due("4: begins behind " + many, run.answers("begins", 0, 2, 4, 0), many);
            Due.due("4: none is left", run.then("begins", 0, 2, 4, 0).told(0), 0);
        }
    }

    /** All is begun anew, but THE TEXT and the IMAGES are no part of what is DONE. */
    private static void promise4LettersAndImagesStay() {
        Run run = Run.none().packs("ab").then("keep", 1).types("cd").then("begins", 3, 15, 60, 9);
        Due.due("4: letters", run.told(11), 2);
        Due.due("4: IMAGE", run.answers("back", 1), 2);
        Due.due("4: no other IMAGE", run.answers("back", 0), STATE);
        Due.due("4: UNDONE", run.then("undo").told(0), 2);
    }

    /** "PACKED: where it was FOUND." */
    private static void promise5FoundFromNoneToOrder() {
        int[] found = {-1, 0, 1, 2, 3, 3};
        for (int n = 0; n < found.length; n++) {
            Run run = Run.packing(3, 15, 60, 4, "d".repeat(n));
            Due.due("5: d behind " + n, run.answers("packs", 3), found[n]);
            Due.due("5: c behind " + n, run.answers("packs", 2), -1);
        }
        Due.due("5: packs(-1)", Run.none().answers("packs", -1), -5);
        Due.due("5: packs(0)", Run.none().answers("packs", 0), -1);
        Due.due("5: packs(3)", Run.none().answers("packs", 3), -1);
        Due.due("5: packs(4)", Run.none().answers("packs", 4), -5);
    }

    /** "-6: FULL (60)." */
    private static void promise5FullAt60() {
        Run run = Run.none().packs("a".repeat(58));
        Due.due("5: the 59th", run.answers("packs", 0), 2);
        Due.due("5: the 60th", run.packs("a").answers("packs", 0), 2);
        Due.due("5: the 61st", run.packs("aa").answers("packs", 0), -6);
        Due.due("5: one taken back", run.packs("aa").then("cuts", 1).answers("packs", 0), 2);
        Due.due("5: one UNDONE", run.packs("aa").then("undo").answers("packs", 0), 2);
    }

    /** "-10 less the place of the first letter that is none of a to d" */
    private static void promise6PlaceOfTheFirstWrongLetter() {
        for (int place : new int[] {0, 1, 59, 60, 198, 199}) {
            Run run = Run.none().types("abcd".repeat(50).substring(0, place)).then("type", 101);
            Due.due("6: at " + place, run.answers("word"), -10 - place);
            Due.due("6: THE TEXT stays", run.then("word").told(11), place + 1);
            if (place < 199) Due.due("6: the first one", run.then("type", 0).answers("word"), -10 - place);
        }
        int[] letters = {0, 64, 65, 68, 96, 97, 100, 101, 255};
        int[] want = {-11, -11, -11, -11, -11, 2, 2, -11, -11};
        for (int i = 0; i < letters.length; i++) {
            Due.due("6: letter " + letters[i], Run.none().types("b").then("type", letters[i]).answers("word"), want[i]);
        }
    }

    /** "by FULL: TEXT SO FAR would have more than 60" */
    private static void promise6FullAbove60() {
        for (int had : new int[] {0, 1, 30, 59, 60}) {
            Run run = Run.none().packs(SIXTY.substring(0, had));
            for (int many = Math.max(59 - had, 0); many <= 62 - had; many++) {
                Run typed = run.types("d".repeat(many));
                boolean good = had + many <= 60;
                Due.due("6: " + many + " behind " + had, typed.answers("word"), good ? many : FULL);
                Due.due("6: SIGNS", typed.then("word").told(0), good ? had + many : had);
                Due.due("6: letters", typed.then("word").told(11), good ? 0 : many);
            }
        }
        Due.due("6: 200 letters", Run.none().types("a".repeat(200)).answers("word"), FULL);
    }

    /** "Without letters it is DONE, too." */
    private static void promise6WithoutLetters() {
        for (String text : List.of("", "a", SIXTY)) {
            Run run = Run.none().types(text).then("word");
            Due.due("6: without letters", run.answers("word"), 0);
            Due.due("6: DONE", run.then("word").told(12), 2);
            Due.due("6: SIGNS", run.then("word").told(0), text.length());
            Due.due("6: UNDONE", run.then("word").answers("undo"), 1);
            Due.due("6: SIGNS stay", run.then("word").then("undo").told(0), text.length());
        }
    }

    private static void promise6OneIsDone() {
        Run run = Run.none().packs("d").types("abca").then("word");
        Due.due("6: two are DONE", run.told(12), 2);
        Due.text("6: all of the word is UNDONE", run.then("undo").text(), "d");
        Due.text("6: the bits are as by packs()", run.bits(), Run.none().packs("dabca").bits());
    }

    /** "n SIGNS (1 ..) are taken back: how many are left. BAD; STATE: there are not so many." */
    private static void promise7FromOneToAll() {
        for (int many : new int[] {0, 1, 2, 60}) {
            Run run = Run.none().packs(SIXTY.substring(0, many));
            int[] cuts = {-1, 0, 1, many - 1, many, many + 1, MOST};
            for (int n : cuts) {
                int want = n < 1 ? BAD : n > many ? STATE : many - n;
                Due.due("7: cuts(" + n + ") of " + many, run.answers("cuts", n), want);
                Due.due("7: left", run.then("cuts", n).told(0), want < 0 ? many : want);
            }
        }
    }

    /** "Taken back: the last n SIGNS are as if they had never been PACKED." */
    private static void promise7AsIfNeverPacked() {
        String text = "abcabdabcdabdcabdb";
        for (int n = 1; n <= text.length(); n++) {
            // LIMIT 3 and ROOM 6: what was halved and FORGOTTEN by the last ones is so no more.
            Run cut = Run.packing(3, 3, 6, 5, text).then("cuts", n);
            Run never = Run.packing(3, 3, 6, 5, text.substring(0, text.length() - n));
            Due.text("7: bits behind cuts(" + n + ")", cut.bits(), never.bits());
            for (int what = 0; what <= 10; what++) Due.due("7: told " + what, cut.told(what), never.told(what));
            Due.text("7: goes on", cut.packs("da").bits(), never.packs("da").bits());
        }
    }

    /** "(6 are known, older ones are lost)"; "how many more may be. STATE: none." */
    private static void promise8SixAreKnown() {
        for (int done = 0; done <= 14; done++) {
            int known = Math.min(done, 6);
            Run run = Run.none().packs(SIXTY.substring(0, done));
            Due.due("8: known of " + done, run.told(12), known);
            for (int more = known - 1; more >= 0; more--) {
                Due.due("8: undo() of " + done, run.answers("undo"), more);
                run = run.then("undo");
                Due.due("8: may be", run.told(12), more);
                Due.text("8: SIGNS", run.text(), SIXTY.substring(0, done - known + more));
            }
            Due.due("8: none of " + done, run.answers("undo"), STATE);
            Due.due("8: one DONE then", run.packs("d").told(12), 1);
            Due.due("8: and UNDONE", run.packs("d").answers("undo"), 0);
            Due.text("8: SIGNS", run.packs("d").then("undo").text(), SIXTY.substring(0, done - known));
        }
    }

    /** "UNDONE: the latest begins(), packs(), word(), cuts() that was not refused" */
    private static void promise8EachKind() {
        Run run = Run.packing(3, 3, 6, 5, "abcabdabcd");
        for (Run done : List.of(run.then("begins", 0, 15, 60, 0), run.packs("d"), run.types("dcab").then("word"),
            run.then("cuts", 7), run.then("word"), run.then("cuts", 10))) {
            Run undone = done.then("undo");
            Due.text("8: SIGNS", undone.text(), run.text());
            Due.text("8: bits", undone.bits(), run.bits());
            for (int what = 0; what <= 10; what++) Due.due("8: told " + what, undone.told(what), run.told(what));
            Due.due("8: one of the six older ones is lost by it", undone.told(12), 5);
        }
    }

    private static void promise8OlderOnesAreLost() {
        Run run = Run.none().then("begins", 0, 2, 4, 0).packs("abcdab");
        for (int i = 0; i < 6; i++) run = run.then("undo");
        Due.due("8: begins() is the seventh", run.told(7), 0);
        Due.due("8: it is lost", run.answers("undo"), STATE);
        run = Run.none().then("begins", 0, 2, 4, 0).packs("abcda");
        for (int i = 0; i < 6; i++) run = run.then("undo");
        Due.due("8: begins() is the sixth", run.told(7), 2);
        // What is DONE behind undo() takes the place of what was UNDONE, round and round.
        run = Run.none().packs("abcdabcd").then("undo").then("undo").then("undo").packs("ddddd");
        Due.due("8: six again", run.told(12), 6);
        for (int i = 0; i < 6; i++) run = run.then("undo");
        Due.text("8: the oldest one that is known", run.text(), "abcd");
        Due.due("8: no more", run.answers("undo"), STATE);
    }

    private static void promise8RefusedOnesAreNotKnown() {
        Run run = Run.none().packs("ab").then("packs", 4).then("cuts", 0).then("cuts", 3).then("begins", 4, 7, 24, 4)
            .types("x").then("word").then("clear").then("keep", 0).then("keep", 2);
        Due.due("8: two are known", run.told(12), 2);
        Due.text("8: the latest one is b", run.then("undo").text(), "a");
    }

    private static void promise8LettersDoNotComeAgain() {
        Run run = Run.none().types("abc").then("word").types("d");
        Due.due("8: letters", run.then("undo").told(11), 1);
        Due.due("8: SIGNS", run.then("undo").told(0), 0);
    }

    /** "The i-th SIGN of TEXT SO FAR (0 on). BAD." */
    private static void promise9FromTheFirstToTheLast() {
        for (int many : new int[] {0, 1, 59, 60}) {
            Run run = Run.none().packs(SIXTY.substring(0, many));
            for (int i : new int[] {-1, 0, many - 1, many, many + 1}) {
                boolean good = i >= 0 && i < many;
                Due.due("9: sign(" + i + ") of " + many, run.answers("sign", i), good ? SIXTY.charAt(i) - 'a' : BAD);
            }
        }
    }

    /** "the first j (0 .. ORDER) of a, b, c (SIGNS, as they came ..)" */
    private static void promise10FirstJ() {
        for (int order = 0; order <= 3; order++) {
            Run run = Run.packing(order, 7, 60, 4, "aaaa");
            for (int j = -1; j <= 4; j++) {
                int got = run.answers("count", j, 0, 0, 0, 0);
                Due.must("10: " + j + " by ORDER " + order, j >= 0 && j <= order ? got > 0 : got == BAD);
            }
        }
        Run run = Run.packing(3, 7, 60, 4, "dcba");
        Due.due("10: as they came", run.answers("count", 3, 3, 2, 1, 0), 1);
        Due.due("10: not from behind", run.answers("count", 3, 1, 2, 3, 0), 0);
        int[] numbers = {-1, 0, 3, 4};
        int[] want = {BAD, 0, 0, BAD};
        for (int i = 0; i < 4; i++) {
            Due.due("10: a is " + numbers[i], run.answers("count", 3, numbers[i], 0, 0, 0), want[i]);
            Due.due("10: b is " + numbers[i], run.answers("count", 3, 0, numbers[i], 0, 0), want[i]);
            Due.due("10: c is " + numbers[i], run.answers("count", 3, 0, 0, numbers[i], 0), want[i]);
            Due.due("10: the SIGN is " + numbers[i], run.answers("count", 3, 0, 0, 0, numbers[i]), want[i]);
        }
    }

    /** "those behind the first j must be 0" */
    private static void promise10BehindTheFirstJ() {
        Run run = Run.packing(3, 7, 60, 4, "dcba");
        for (int j = 0; j <= 3; j++) {
            for (int place = 1; place <= 3; place++) {
                for (int n : new int[] {-1, 1, 3}) {
                    int[] with = {j, 0, 0, 0, 0};
                    with[place] = n;
                    boolean good = place <= j && n >= 0;
                    Due.must("10: " + n + " at " + place + " of " + j, run.answers("count", with) == BAD != good);
                }
            }
        }
    }

    /** "The i-th of THE BITS (0 on) as they are, not ENDED; NONE: there are not so many. BAD (i below 0)." */
    private static void promise11FromTheFirstToTheLast() {
        Due.due("11: none at first", Run.none().answers("bit", 0), NONE);
        Due.due("11: below 0", Run.none().answers("bit", -1), BAD);
        Run run = Run.none().then("begins", 3, 15, 8, 5).types("abacbc".repeat(10)).then("word");
        int[] places = {-1, 0, 1, 2, 191, 192, 194, 195, 196, MOST};
        int[] want = {BAD, 0, 0, 1, 1, 0, 0, NONE, NONE, NONE};
        for (int i = 0; i < places.length; i++) {
            Due.due("11: bit(" + places[i] + ")", run.answers("bit", places[i]), want[i]);
        }
        // "ac" has one OWED: neither it nor an end is told.
        Due.due("11: OWED", Run.packing(0, 15, 60, 0, "ac").answers("bit", 2), 1);
        Due.due("11: OWED", Run.packing(0, 15, 60, 0, "ac").answers("bit", 3), NONE);
    }

    /** "CHANCE of a SIGN: upper (what = 0), lower number (1), in least terms." */
    private static void promise12LeastTerms() {
        // 2 of 5; 2 of 6; 3 of 6 and 1 of 1; 2 of 4 and 3 of 4; 14 of 15, the most that a COUNT can be; 1 of 15 and 1 of 3.
        Due.chance(Run.packing(0, 7, 24, 4, "aab"), 0, 2, 5);
        Due.chance(Run.packing(0, 7, 24, 4, "aabb"), 0, 1, 3);
        Due.chance(Run.packing(0, 7, 24, 4, "abc"), 3, 1, 2);
        Due.chance(Run.packing(1, 7, 24, 4, "dabaca"), 0, 3, 8);
        Due.chance(Run.packing(0, 15, 24, 4, "a".repeat(14)), 0, 14, 15);
        Due.chance(Run.packing(0, 15, 24, 4, "a".repeat(14)), 3, 1, 45);
        Due.chance(Run.packing(0, 15, 24, 4, "a".repeat(15)), 0, 7, 8);
        Due.chance(Run.none().packs(SIXTY).then("begins", 0, 7, 24, 4), 2, 1, 4);
    }

    private static void promise12SignAndWhat() {
        signAndWhat("chance", 1, 4, BAD);
    }

    private static void signAndWhat(String name, int by0, int by1, int bad) {
        for (int sign : new int[] {-1, 0, 3, 4}) {
            for (int what = -1; what <= 2; what++) {
                boolean good = sign >= 0 && sign <= 3 && what >= 0 && what <= 1;
                Run.Call call = new Run.Call(name, sign, what);
                Due.due(call.toString(), Run.none().answers(call), good ? what == 0 ? by0 : by1 : bad);
            }
        }
    }

    /** "how many (what = 0), where it would be FOUND (1). -5: BAD." */
    private static void promise13SignAndWhat() {
        signAndWhat("escapes", 0, -1, -5);
        // a is FOUND at the longest one; d wants an ESCAPE there, and none where only a is, which is SHUT.
        Run run = Run.packing(3, 15, 60, 4, "aaaaa");
        Due.due("13: none", run.answers("escapes", 0, 0), 0);
        Due.due("13: at 3", run.answers("escapes", 0, 1), 3);
        Due.due("13: one", run.answers("escapes", 3, 0), 1);
        Due.due("13: at none", run.answers("escapes", 3, 1), -1);
        // "aaa" has a, "aa" b as well, "a" no more than that, "" c as well: an ESCAPE at each but "a".
        run = Run.packing(3, 15, 60, 4, "caabaaaa");
        int[] many = {0, 1, 2, 3};
        int[] found = {3, 2, 0, -1};
        for (int sign = 0; sign < 4; sign++) {
            Due.due("13: how many of " + sign, run.answers("escapes", sign, 0), many[sign]);
            Due.due("13: where " + sign, run.answers("escapes", sign, 1), found[sign]);
        }
    }

    /** "the SIGN with the greatest CHANCE, of several the least." */
    private static void promise14OfSeveralTheLeast() {
        String[] texts = {"", "bd", "bbdd", "ccdd", "ddcc", "bbddd", "ddd", "aad", "dda"};
        int[] want = {0, 0, 1, 2, 2, 3, 3, 0, 3};
        for (int i = 0; i < texts.length; i++) {
            Due.due("14: " + texts[i], Run.packing(0, 7, 24, 4, texts[i]).answers("likeliest"), want[i]);
        }
        Due.due("14: of 60", Run.packing(0, 7, 24, 4, "d".repeat(60)).answers("likeliest"), 3);
    }

    /** "how many bits THE BITS would have, were it ENDED now." */
    private static void promise15FromNothingOn() {
        Due.due("15: nothing", Run.none().answers("length"), 2);
        Due.due("15: one", Run.none().packs("a").answers("length"), 4);
        Due.due("15: taken back", Run.none().packs("a").then("cuts", 1).answers("length"), 2);
        Run run = Run.none().packs(SIXTY);
        Due.due("15: 60", run.answers("length"), run.told(3) + run.told(4) + 2);
    }

    /** "the ORDER (0 to 3) by which TEXT SO FAR .. has the least LENGTH, of several the least." */
    private static void promise16OfSeveralTheLeast() {
        // The LENGTHS by ORDER 0 to 3 stand behind each.
        best("", 0, 2, 2, 2, 2);
        best("b", 0, 4, 4, 4, 4);
        best("ccc", 0, 5, 6, 6, 6);
        best("cccc", 0, 6, 6, 7, 7);
        best("cccccac", 0, 11, 12, 11, 12);
        best("cbbbbd", 0, 12, 13, 13, 12);
        best("acccc", 1, 10, 9, 10, 10);
        best("bbd", 1, 8, 7, 7, 7);
        best("aaaabb", 1, 12, 11, 12, 11);
        best("dcaaaad", 2, 17, 16, 15, 16);
        best("dcccd", 2, 11, 11, 10, 10);
        best("cbbbbc", 3, 13, 12, 12, 11);
    }

    private static void best(String text, int want, int... lengths) {
        for (int order = 0; order <= 3; order++) {
            Run run = Run.packing(order, 7, 24, 4, text);
            Due.due("16: LENGTH of " + text + " by " + order, run.answers("length"), lengths[order]);
            Due.due("16: " + text + ", asked by ORDER " + order, run.answers("best"), want);
        }
    }

    /** "the i-th SIGN (0 .. 59). BAD" */
    private static void promise17From0To59() {
        int[] places = {-2, -1, 0, 1, 58, 59, 60, 61};
        for (int i : places) {
            int want = i >= 0 && i <= 59 ? 0 : BAD;
            Due.due("17: unpacked(" + i + ")", Run.none().answers("unpacked", i), want);
        }
        Run run = Run.none().then("begins", 3, 15, 8, 5).types("abacbc".repeat(10)).then("word");
        String bits = run.bits() + "01";
        Run other = Run.none().then("begins", 3, 15, 8, 5).types(bits);
        Due.text("17: all 60", other.unpacked(), "abacbc".repeat(10));
    }

    /** "THE TEXT, whose letters tell bits (0, 1)"; "-10 less the place of the first letter that is neither." */
    private static void promise17LettersOfBits() {
        int[] letters = {0, 1, 47, 48, 49, 50, 97, 255};
        int[] want = {-10, -10, -10, 0, 2, -10, -10, -10};
        for (int i = 0; i < letters.length; i++) {
            Due.due("17: letter " + letters[i], Run.none().then("type", letters[i]).answers("unpacked", 0), want[i]);
        }
        for (int place : new int[] {0, 1, 15, 16, 198, 199}) {
            Run run = Run.none().types("01".repeat(100).substring(0, place)).types("2");
            Due.due("17: at " + place, run.answers("unpacked", 0), -10 - place);
            Due.due("17: at " + place, run.answers("unpacked", 59), -10 - place);
            Due.due("17: BAD", run.answers("unpacked", 60), BAD);
            if (place < 199) Due.due("17: the first one", run.types("x").answers("unpacked", 0), -10 - place);
        }
    }

    /** "how many SIGNS from the first on are those of TEXT SO FAR (all of them ..)" */
    private static void promise18FromNoneTo60() {
        for (int order = 0; order <= 3; order++) {
            for (int many : new int[] {0, 1, 2, 59, 60}) {
                Run run = Run.none().then("begins", order, 2, 4, 9).packs(SIXTY.substring(0, many));
                Due.due("18: " + many + " by ORDER " + order, run.answers("agrees"), many);
            }
        }
        Due.due("18: letters do not matter", Run.none().packs("abca").types("x1").answers("agrees"), 4);
    }

    /** "IMAGES 0, 1"; "An IMAGE is kept: how many SIGNS. BAD." */
    private static void promise19Images0And1() {
        for (int many : new int[] {0, 1, 60}) {
            Run run = Run.none().packs(SIXTY.substring(0, many));
            int[] images = {-1, 0, 1, 2};
            int[] want = {BAD, many, many, BAD};
            for (int i = 0; i < 4; i++) Due.due("19: keep(" + images[i] + ")", run.answers("keep", images[i]), want[i]);
        }
        Run run = Run.none().packs("abc").then("keep", 0).packs("d").then("keep", 1);
        Due.changesNothing(run, new Run.Call("keep", 1));
        Due.due("19: the first one", run.answers("back", 0), 3);
        Due.due("19: the second one", run.answers("back", 1), 4);
        Due.due("19: kept anew", run.then("keep", 0).answers("back", 0), 4);
        Due.due("19: to be UNDONE still", run.told(12), 4);
    }

    /** "All of that becomes as an IMAGE has it: how many SIGNS. BAD; STATE: none was kept." */
    private static void promise20NoneWasKept() {
        int[] images = {-1, 0, 1, 2};
        int[][] want = {{BAD, STATE, STATE, BAD}, {BAD, 2, STATE, BAD}, {BAD, STATE, 2, BAD}};
        Run run = Run.none().packs("ab");
        for (int i = 0; i < 4; i++) {
            Due.due("20: none kept", run.answers("back", images[i]), want[0][i]);
            Due.due("20: 0 kept", run.then("keep", 0).answers("back", images[i]), want[1][i]);
            Due.due("20: 1 kept", run.then("keep", 1).answers("back", images[i]), want[2][i]);
        }
        for (int many : new int[] {0, 1, 60}) {
            Run kept = Run.none().packs(SIXTY.substring(0, many)).then("keep", 1).then("begins", 0, 2, 4, 0)
                .packs("dd");
            Due.due("20: how many", kept.answers("back", 1), many);
            Due.text("20: the SIGNS", kept.then("back", 1).text(), SIXTY.substring(0, many));
        }
    }

    /** "(nothing can be UNDONE behind back())" */
    private static void promise20NothingCanBeUndone() {
        for (int done : new int[] {0, 1, 6, 7}) {
            Run run = Run.none().then("keep", 0).packs(SIXTY.substring(0, done));
            Due.due("20: could be", run.told(12), Math.min(done, 6));
            run = run.then("back", 0);
            Due.due("20: may be UNDONE", run.told(12), 0);
            Due.due("20: undo()", run.answers("undo"), STATE);
            Due.due("20: one DONE behind it", run.packs("d").answers("undo"), 0);
            Due.due("20: no more", run.packs("d").then("undo").answers("undo"), STATE);
        }
        Run refused = Run.none().packs("ab").then("back", 0).then("back", 2);
        Due.due("20: refused ones lose nothing", refused.told(12), 2);
    }

    /** "IMAGES 0, 1 keep ORDER, LIMIT, ROOM, TAIL, TEXT SO FAR; nothing else" */
    private static void promise20NothingElse() {
        Run kept = Run.packing(3, 3, 6, 5, "abcabdabcd").types("ab").then("keep", 0);
        Run run = kept.then("begins", 0, 15, 60, 0).packs("dd").types("c").then("back", 0);
        Due.due("20: letters are as typed", run.told(11), 3);
        for (int what = 0; what <= 10; what++) Due.due("20: told " + what, run.told(what), kept.told(what));
        Due.text("20: bits", run.bits(), kept.bits());
        Due.text("20: goes on", run.packs("dcba").bits(), kept.packs("dcba").bits());
        Due.due("20: it is kept still", run.packs("d").answers("back", 0), 10);
        Due.due("20: none of it is kept in the other one", run.answers("back", 1), STATE);
    }

    /** "0 SIGNS of TEXT SO FAR, .. 12 how many may be UNDONE. BAD." */
    private static void promise21From0To12() {
        int[] numbers = {-2, -1, 0, 12, 13, 14};
        int[] want = {BAD, BAD, 3, 3, BAD, BAD};
        Run run = Run.none().packs("abc");
        for (int i = 0; i < numbers.length; i++) Due.due("21: told(" + numbers[i] + ")", run.told(numbers[i]), want[i]);
    }

    private static void promise21TheMostOfEach() {
        Run run = Run.none().packs(SIXTY).types("x".repeat(200));
        Due.due("21: SIGNS", run.told(0), 60);
        Due.due("21: letters", run.told(11), 200);
        Due.due("21: to be UNDONE", run.told(12), 6);
        // By ORDER 3, ROOM 4 and TAIL 9 more than ROOM are THERE from the fourth SIGN on: FORGOTTEN by each.
        run = Run.packing(3, 15, 4, 9, SIXTY);
        Due.due("21: FORGOTTEN", run.told(2), 57);
        Due.due("21: none by the third", Run.packing(3, 15, 4, 9, SIXTY.substring(0, 3)).told(2), 0);
        Due.due("21: one by the fourth", Run.packing(3, 15, 4, 9, SIXTY.substring(0, 4)).told(2), 1);
    }
}
