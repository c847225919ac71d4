/**
 * The boundaries that the document's "What it is" and "Terms" name, down to how a SIGN is PACKED and LEARNT: a test
 * for each sentence, at the boundary and on both sides of it. Numbers in comments are worked out by hand.
 */
public final class TermsEdgesTest {
    private static final int BAD = LongestPast.BAD;
    /** By ORDER 3, 60 CONTEXTS are THERE behind 43 SIGNS of this, and 61 behind 44. */
    private static final String WIDE = "ccadcccbbcbcddbccdbbaabcaacdcdacbbbdadaaadbb";

    public static void main(String[] args) {
        signsAreLettersAToD();
        atMost512Calls();
        textSoFarHas60AtMost();
        orderFrom0To3();
        limitFrom2To15();
        roomFrom4To60();
        tailFrom0To9();
        contextsHave0ToOrderSigns();
        countsAre0AtFirst();
        thereIfOneCountIsAbove0();
        fromTheLesserOneOfOrderAndN();
        noneOpenWritesNothing();
        escapeIsAsWideAsThereAreOpenOnes();
        escapeIs0IfEachIsOpenOrShut();
        partBeginsWithLesserOpenOnes();
        escapeIsAtTheEnd();
        foundAtNone();
        learntFromWhereItWasFound();
        halvedAtLimit();
        halvedInThatContextAlone();
        halvedToNothing();
        forgottenAboveRoom();
        forgottenAboveTheMostRoom();
        learntAgainFromTail();
        learntAgainFromAllIfNotSoMany();
        tailHasSignsOfTheseAlone();
        tailIsHalvedLikewise();
        Due.ends("TermsEdgesTest");
    }

    /** "SIGNS 0 to 3 are told as letters a to d." */
    private static void signsAreLettersAToD() {
        Due.due("letter 96", Run.none().then("type", 96).answers("word"), -10);
        for (int sign = 0; sign < 4; sign++) {
            Run run = Run.none().then("type", 97 + sign);
            Due.due("letter " + (97 + sign), run.answers("word"), 1);
            Due.due("its SIGN", run.then("word").answers("sign", 0), sign);
        }
        Due.due("letter 101", Run.none().then("type", 101).answers("word"), -10);
    }

    /** "An object is used for at most 512 calls after it has been made". */
    private static void atMost512Calls() {
        LongestPast x = new LongestPast();
        for (int call = 1; call <= 510; call += 2) {
            Due.due("call " + call, x.packs(call % 4), -1);
            Due.due("call " + (call + 1), x.cuts(1), 0);
        }
        Due.due("call 511", x.told(12), 6);
        Due.due("call 512", x.undo(), 5);
    }

    /** "TEXT SO FAR: a row of SIGNS (60 at most; none at first)." */
    private static void textSoFarHas60AtMost() {
        Due.due("none at first", Run.none().told(0), 0);
        Due.due("no SIGN at first", Run.none().answers("sign", 0), BAD);
        Run run = Run.none().packs("abcd".repeat(14)).packs("abc");
        Due.due("59", run.told(0), 59);
        Due.due("a 60th", run.answers("packs", 3) >= -1 ? 1 : 0, 1);
        run = run.packs("d");
        Due.due("60", run.told(0), 60);
        Due.due("the 60th", run.answers("sign", 59), 3);
        Due.due("no 61st", run.answers("packs", 0), -6);
        Due.due("60 still", run.packs("a").told(0), 60);
    }

    /** "ORDER (0 to 3; 2 at first)". */
    private static void orderFrom0To3() {
        setting(0, 7, 0, 3, 2);
    }

    /** "LIMIT (2 to 15; 7 at first)". */
    private static void limitFrom2To15() {
        setting(1, 8, 2, 15, 7);
    }

    /** "ROOM (4 to 60; 24 at first)". */
    private static void roomFrom4To60() {
        setting(2, 9, 4, 60, 24);
    }

    /** "TAIL (0 to 9; 4 at first)." */
    private static void tailFrom0To9() {
        setting(3, 10, 0, 9, 4);
    }

    private static void setting(int place, int what, int least, int most, int first) {
        Due.due("at first, told " + what, Run.none().told(what), first);
        for (int n = least - 2; n <= most + 2; n++) {
            int[] with = {2, 7, 24, 4};
            with[place] = n;
            boolean good = n >= least && n <= most;
            Run run = Run.none().packs("ab").then("begins", with);
            int had = Run.none().packs("ab").answers("begins", with);
            Due.due("begins, " + n + " as number " + place, had, good ? 2 : BAD);
            Due.due("told " + what + " behind " + n, run.told(what), good ? n : first);
            Due.due("SIGNS behind " + n, run.told(0), good ? 0 : 2);
        }
    }

    /** "A CONTEXT is a row of 0 to ORDER SIGNS". */
    private static void contextsHave0ToOrderSigns() {
        for (int order = 0; order <= 3; order++) {
            Run run = Run.packing(order, 7, 60, 4, "aaaaaaaa");
            Due.due("length -1", run.answers("count", -1, 0, 0, 0, 0), BAD);
            for (int j = 0; j <= order; j++) {
                Due.must("length " + j + " of ORDER " + order, run.answers("count", j, 0, 0, 0, 0) > 0);
            }
            Due.due("length above ORDER " + order, run.answers("count", order + 1, 0, 0, 0, 0), BAD);
            Due.due("THERE by ORDER " + order, run.told(1), order + 1);
        }
    }

    /** "it has a COUNT for each SIGN (0 at first)." */
    private static void countsAre0AtFirst() {
        LongestPast x = Run.none().then("begins", 3, 7, 24, 4).played();
        for (int code = 0; code < 256; code++) {
            Due.due("at first", x.count(3, code >> 6, code >> 4 & 3, code >> 2 & 3, code & 3), 0);
        }
        for (int code = 0; code < 64; code++) Due.due("at first", x.count(2, code >> 4, code >> 2 & 3, 0, code & 3), 0);
        for (int code = 0; code < 16; code++) Due.due("at first", x.count(1, code >> 2, 0, 0, code & 3), 0);
        for (int sign = 0; sign < 4; sign++) Due.due("at first", x.count(0, 0, 0, 0, sign), 0);
    }

    /** "It is THERE, if one of its COUNTS is above 0." */
    private static void thereIfOneCountIsAbove0() {
        // "" is THERE behind "a"; then "a" is, and "ab", "b" by ORDER 2; behind "abcab" a, b, c, ab, bc, ca and "".
        int[] there = {0, 1, 2, 4, 6, 7, 7};
        for (int n = 0; n < there.length; n++) {
            Due.due("THERE behind " + n, Run.packing(2, 7, 24, 4, "abcabc".substring(0, n)).told(1), there[n]);
        }
    }

    /** "j goes from the lesser one of ORDER and n down to 0", and is learnt up to it. */
    private static void fromTheLesserOneOfOrderAndN() {
        for (int order = 0; order <= 3; order++) {
            for (int n = 0; n <= 6; n++) {
                Run run = Run.packing(order, 15, 60, 4, "a".repeat(n));
                // The longest one that has an a is that of n - 1 SIGNS: that of n SIGNS learns its first one only now.
                Due.due("FOUND by ORDER " + order + " at " + n, run.answers("packs", 0), Math.min(order, n - 1));
                Due.due("THERE then", run.packs("a").told(1), Math.min(order, n) + 1);
            }
        }
    }

    /** "If none is OPEN, nothing is written." */
    private static void noneOpenWritesNothing() {
        // Not THERE: "ab" and "b" behind "ab"; only "" has COUNTS, whatever ORDER is. "ab" is 0 to 43689; then 1 of 4
        // is 0 to 10921, so two bits 0.
        for (int order = 0; order <= 3; order++) {
            Run run = Run.packing(order, 7, 60, 4, "ab");
            Due.chance(run, 0, 1, 4);
            Due.due("no ESCAPE", run.answers("escapes", 0, 0), 0);
            Due.written(run.packs("a"), "001000", 0, 0, 43687);
        }
        // THERE, but all SHUT: "ab" has c alone, and so has "b"; "" has a 2, b 1, and c that is SHUT.
        Run run = Run.packing(2, 7, 24, 4, "abcab");
        int[][] want = {{1, 5}, {1, 10}, {1, 2}, {1, 5}};
        for (int sign = 0; sign < 4; sign++) Due.chance(run, sign, want[sign][0], want[sign][1]);
        Due.due("one ESCAPE, at ab", run.answers("escapes", 0, 0), 1);
        Due.due("two ESCAPES, at ab and at nothing", run.answers("escapes", 3, 0), 2);
    }

    /** "Else the ESCAPE is as wide as there are OPEN ones". */
    private static void escapeIsAsWideAsThereAreOpenOnes() {
        Run one = Run.packing(0, 7, 24, 4, "aaa");
        Due.chance(one, 0, 3, 4);
        Due.chance(one, 1, 1, 12);
        Run two = Run.packing(0, 7, 24, 4, "aaab");
        Due.chance(two, 0, 1, 2);
        Due.chance(two, 1, 1, 6);
        Due.chance(two, 2, 1, 6);
        Run three = Run.packing(0, 7, 24, 4, "aaabc");
        Due.chance(three, 0, 3, 8);
        Due.chance(three, 2, 1, 8);
        Due.chance(three, 3, 3, 8);
        // SHUT ones do not count: "a" has b; "" has a 2, c 1 and b that is SHUT, so the ESCAPE is 2 of 5.
        Run shut = Run.packing(1, 7, 24, 4, "caba");
        int[][] want = {{1, 5}, {1, 2}, {1, 10}, {1, 5}};
        for (int sign = 0; sign < 4; sign++) Due.chance(shut, sign, want[sign][0], want[sign][1]);
    }

    /** "but 0, if each SIGN is OPEN or SHUT" */
    private static void escapeIs0IfEachIsOpenOrShut() {
        // 4 are OPEN.
        Run run = Run.packing(0, 7, 24, 4, "aaabcd");
        Due.chance(run, 0, 1, 2);
        Due.chance(run, 3, 1, 6);
        // "a" has b; "" has a 2, c 1, d 1: 3 OPEN, 1 SHUT.
        run = Run.packing(1, 7, 24, 4, "cdaba");
        int[][] three = {{1, 4}, {1, 2}, {1, 8}, {1, 8}};
        for (int sign = 0; sign < 4; sign++) Due.chance(run, sign, three[sign][0], three[sign][1]);
        // "a" has b, c; "" has a 3, d 1: 2 OPEN, 2 SHUT. Without d one is neither, and d wants a second ESCAPE.
        run = Run.packing(1, 7, 24, 4, "dabaca");
        int[][] two = {{3, 8}, {1, 4}, {1, 4}, {1, 8}};
        for (int sign = 0; sign < 4; sign++) Due.chance(run, sign, two[sign][0], two[sign][1]);
        Due.due("d is FOUND", run.answers("escapes", 3, 1), 0);
        Due.due("one ESCAPE", run.answers("escapes", 3, 0), 1);
        run = Run.packing(1, 7, 24, 4, "abaca");
        for (int sign = 0; sign < 4; sign++) Due.chance(run, sign, two[sign][0], two[sign][1]);
        Due.due("d is not FOUND", run.answers("escapes", 3, 1), -1);
        Due.due("two ESCAPES", run.answers("escapes", 3, 0), 2);
        // "a" has b, c, d; "" has a 4: 1 OPEN, 3 SHUT, so a is all of TOTAL there.
        run = Run.packing(1, 7, 24, 4, "abacada");
        Due.chance(run, 0, 1, 2);
        for (int sign = 1; sign < 4; sign++) Due.chance(run, sign, 1, 6);
        // By LIMIT 2 "" has a 1 and nothing else: TOTAL is 1, and a is FOUND there.
        run = Run.packing(1, 2, 24, 4, "abacada");
        Due.due("a in nothing", run.answers("count", 0, 0, 0, 0, 0), 1);
        Due.chance(run, 0, 1, 2);
        Due.due("FOUND at nothing", run.answers("packs", 0), 0);
        Due.due("asked", run.answers("escapes", 0, 1), 0);
        Due.due("one ESCAPE", run.answers("escapes", 0, 0), 1);
    }

    /** "the PART that begins with the COUNTS of OPEN SIGNS less than s, together, and is COUNT of s wide" */
    private static void partBeginsWithLesserOpenOnes() {
        // "ac" is 00, 1, and 10922 to 54611 with one OWED. Of a 1, c 1, ESCAPE 2: a is 10922 to 21843, c is 21844 to
        // 32766.
        Due.written(Run.packing(0, 15, 60, 0, "ac"), "001", 1, 10922, 54611);
        Due.written(Run.packing(0, 15, 60, 0, "aca"), "00101", 1, 10920, 54607);
        Due.written(Run.packing(0, 15, 60, 0, "acc"), "001011", 0, 21840, 65531);
    }

    /** "Else the ESCAPE is written: the PART of its width at the end of TOTAL" */
    private static void escapeIsAtTheEnd() {
        // Behind "ac" it is 2 to 4 of 4: 32767 to 54611. Then b is the first one of 2, and d is the second one.
        Due.written(Run.packing(0, 15, 60, 0, "acb"), "001", 2, 32766, 54609);
        Due.written(Run.packing(0, 15, 60, 0, "acd"), "00110", 1, 10916, 54607);
    }

    /** "If it was FOUND at none: TOTAL is how many SIGNS are not SHUT"; "it is FOUND at -1." */
    private static void foundAtNone() {
        String[] first = {"00", "01", "10", "11"};
        for (int sign = 0; sign < 4; sign++) {
            Due.chance(Run.none(), sign, 1, 4);
            Due.due("of 4", Run.none().answers("packs", sign), -1);
            Due.written(Run.none().then("packs", sign), first[sign], 0, 0, 65535);
        }
        // Of 3, behind the ESCAPE 1 of 2, a bit 1: b 0 to 21844, c 21845 to 43689, d 43690 to 65535.
        Due.written(Run.packing(0, 15, 60, 0, "ab"), "0010", 0, 0, 43689);
        Due.written(Run.packing(0, 15, 60, 0, "ac"), "001", 1, 10922, 54611);
        Due.written(Run.packing(0, 15, 60, 0, "ad"), "0011", 0, 21844, 65535);
        // Of 2, behind the ESCAPE, which is 10922 to 54611 and one OWED.
        Due.written(Run.packing(0, 15, 60, 0, "abc"), "001001", 0, 21844, 65533);
        Due.written(Run.packing(0, 15, 60, 0, "abd"), "0010", 1, 32767, 54611);
        // Of 1, behind the ESCAPE 3 of 6: 43689 to 65533, a bit 1.
        Run run = Run.packing(0, 15, 60, 0, "abc");
        Due.due("of 1", run.answers("packs", 3), -1);
        Due.chance(run, 3, 1, 2);
        Due.written(run.packs("d"), "0010011", 0, 21842, 65531);
    }

    /** "of each length j from where it was FOUND (0, if at -1) to the lesser one of ORDER and n" */
    private static void learntFromWhereItWasFound() {
        // FOUND at -1, 0, 1, 2, 3, 3: each time from there to the longest one.
        int[][] counts = {{1, 0, 0, 0}, {2, 1, 0, 0}, {2, 2, 1, 0}, {2, 2, 2, 1}, {2, 2, 2, 2}, {2, 2, 2, 3}};
        for (int n = 1; n <= counts.length; n++) {
            Run run = Run.packing(3, 15, 60, 4, "a".repeat(n));
            for (int j = 0; j <= 3; j++) {
                Due.due("a in " + j + " behind " + n, run.answers("count", j, 0, 0, 0, 0), counts[n - 1][j]);
            }
        }
        Run none = Run.packing(3, 15, 60, 4, "aaaab");
        for (int j = 0; j <= 3; j++) Due.due("b, FOUND at -1, in " + j, none.answers("count", j, 0, 0, 0, 1), 1);
    }

    /** "COUNT of s is 1 more; if it is LIMIT then, all COUNTS of that CONTEXT become half of what they are, cut." */
    private static void halvedAtLimit() {
        for (int limit = 2; limit <= 15; limit++) {
            Run run = Run.packing(0, limit, 60, 4, "b".repeat(limit - 1) + "a".repeat(limit - 1));
            Due.due("one below LIMIT " + limit, run.answers("count", 0, 0, 0, 0, 0), limit - 1);
            Due.due("beside it", run.answers("count", 0, 0, 0, 0, 1), limit - 1);
            run = run.packs("a");
            Due.due("at LIMIT " + limit, run.answers("count", 0, 0, 0, 0, 0), limit / 2);
            Due.due("beside it", run.answers("count", 0, 0, 0, 0, 1), (limit - 1) / 2);
            run = run.packs("a");
            Due.due("one above it", run.answers("count", 0, 0, 0, 0, 0), limit == 2 ? 1 : limit / 2 + 1);
        }
    }

    private static void halvedInThatContextAlone() {
        // By ORDER 1 the fourth a makes 3 of "a"; "" has had 2 since the second one, and "b" 1.
        Run run = Run.packing(1, 3, 60, 4, "aaa");
        Due.due("a in a", run.answers("count", 1, 0, 0, 0, 0), 2);
        run = run.packs("a");
        Due.due("a in a, halved", run.answers("count", 1, 0, 0, 0, 0), 1);
        Due.due("a in nothing", run.answers("count", 0, 0, 0, 0, 0), 2);
    }

    private static void halvedToNothing() {
        // b 1 beside a 2 of LIMIT 2 is 0: it is not OPEN any more, and the ESCAPE is 1 of 2 again.
        Run run = Run.packing(0, 2, 24, 4, "ab");
        Due.due("b is FOUND", run.answers("packs", 1), 0);
        Due.chance(run, 0, 1, 4);
        run = run.packs("a");
        Due.due("b", run.answers("count", 0, 0, 0, 0, 1), 0);
        Due.due("b is not FOUND", run.answers("packs", 1), -1);
        Due.chance(run, 0, 1, 2);
        Due.due("it is THERE still", run.told(1), 1);
    }

    /** "If more than ROOM CONTEXTS are THERE then, all is FORGOTTEN: all COUNTS become 0" */
    private static void forgottenAboveRoom() {
        for (int room = 4; room < 60; room++) {
            int n = 0;
            while (thereBehind(n) <= room) n++;
            Due.due("THERE, at most ROOM " + room, forgottenBehind(n - 1, room), 0);
            Due.due("THERE, more than ROOM " + room, forgottenBehind(n, room), 1);
            Due.due("as many as are THERE", forgottenBehind(n, thereBehind(n)), 0);
        }
        Run run = Run.packing(1, 7, 4, 0, "abcd");
        Due.due("4 are THERE", run.told(1), 4);
        Due.due("none FORGOTTEN", run.told(2), 0);
        run = run.packs("a");
        Due.due("FORGOTTEN", run.told(2), 1);
        for (int sign = 0; sign < 4; sign++) Due.due("its COUNT", run.answers("count", 0, 0, 0, 0, sign), 0);
        for (int code = 0; code < 16; code++) {
            Due.due("its COUNT", run.answers("count", 1, code >> 2, 0, 0, code & 3), 0);
        }
        Due.due("TEXT SO FAR stays", run.told(0), 5);
    }

    private static int thereBehind(int n) {
        return Run.packing(3, 15, 60, 4, WIDE.substring(0, n)).told(1);
    }

    private static int forgottenBehind(int n, int room) {
        return Run.packing(3, 15, room, 4, WIDE.substring(0, n)).told(2);
    }

    private static void forgottenAboveTheMostRoom() {
        Due.due("60 are THERE", thereBehind(43), 60);
        Due.due("by ROOM 60 they stay", forgottenBehind(43, 60), 0);
        Due.due("by ROOM 59 they do not", forgottenBehind(43, 59) > 0 ? 1 : 0, 1);
        Due.due("61 by ROOM 60", forgottenBehind(44, 60), 1);
        Due.must("only the last 4 are learnt then", thereBehind(44) <= 7);
    }

    /** "then the last TAIL SIGNS of TEXT SO FAR (all, if there are not so many) are learnt" */
    private static void learntAgainFromTail() {
        // By ORDER 3 "abcd" has 7 CONTEXTS: more than ROOM 4, for the first time.
        int[] there = {0, 1, 2, 4, 7, 7, 7, 7, 7, 7};
        for (int tail = 0; tail <= 9; tail++) {
            Run run = Run.packing(3, 15, 4, tail, "abcd");
            Due.due("FORGOTTEN", run.told(2), 1);
            Due.due("THERE by TAIL " + tail, run.told(1), there[tail]);
            for (int sign = 0; sign < 4; sign++) {
                Due.due("COUNT of " + sign + " by TAIL " + tail, run.answers("count", 0, 0, 0, 0, sign),
                    tail >= 4 - sign ? 1 : 0);
            }
            Due.due("d in abc by TAIL " + tail, run.answers("count", 3, 0, 1, 2, 3), tail >= 4 ? 1 : 0);
        }
    }

    private static void learntAgainFromAllIfNotSoMany() {
        int tried = 0;
        for (int n = 4; n <= 14; n++) {
            int room = thereBehind(n) - 1;
            if (thereBehind(n - 1) > room) continue;
            tried++;
            for (int tail = 0; tail <= 9; tail++) {
                Run run = Run.packing(3, 15, room, tail, WIDE.substring(0, n));
                int learnt = 0;
                for (int sign = 0; sign < 4; sign++) learnt += run.answers("count", 0, 0, 0, 0, sign);
                Due.due("learnt of " + n + " by TAIL " + tail, learnt, Math.min(tail, n));
            }
        }
        Due.must("8, 9 and 10 SIGNS are among them", tried == 11);
    }

    /** "each in THE CONTEXTS of all lengths 0 to ORDER that have SIGNS of these alone" */
    private static void tailHasSignsOfTheseAlone() {
        Run run = Run.packing(3, 15, 4, 3, "abcd");
        Due.due("b in nothing", run.answers("count", 0, 0, 0, 0, 1), 1);
        Due.due("b in a", run.answers("count", 1, 0, 0, 0, 1), 0);
        Due.due("c in b", run.answers("count", 1, 1, 0, 0, 2), 1);
        Due.due("c in ab", run.answers("count", 2, 0, 1, 0, 2), 0);
        Due.due("d in bc", run.answers("count", 2, 1, 2, 0, 3), 1);
        Due.due("d in abc", run.answers("count", 3, 0, 1, 2, 3), 0);
    }

    /** "(halved likewise, ROOM doesn't matter)" */
    private static void tailIsHalvedLikewise() {
        // "aaab" has 4 CONTEXTS, "aaaba" 7. Learnt again: "" has a 1 three times halved, and the last time b 0 by it.
        Due.due("none FORGOTTEN by 4", Run.packing(3, 2, 4, 5, "aaab").told(2), 0);
        Run run = Run.packing(3, 2, 4, 5, "aaaba");
        Due.due("FORGOTTEN", run.told(2), 1);
        Due.due("THERE, above ROOM", run.told(1), 7);
        Due.due("a in nothing", run.answers("count", 0, 0, 0, 0, 0), 1);
        Due.due("b in nothing", run.answers("count", 0, 0, 0, 0, 1), 0);
        Due.due("a in a", run.answers("count", 1, 0, 0, 0, 0), 1);
        Due.due("b in a", run.answers("count", 1, 0, 0, 0, 1), 1);
        Due.due("a in aa", run.answers("count", 2, 0, 0, 0, 0), 1);
        Due.due("b in aaa", run.answers("count", 3, 0, 0, 0, 1), 1);
        Due.due("a in aab", run.answers("count", 3, 0, 0, 1, 0), 1);
        Due.due("FORGOTTEN again by the next one", run.packs("c").told(2), 2);
        // By LIMIT 3 none of "" is halved but a, which is 3 at the third one.
        run = Run.packing(3, 3, 4, 5, "aaaba");
        Due.due("a in nothing, by 3", run.answers("count", 0, 0, 0, 0, 0), 2);
        Due.due("b in nothing, by 3", run.answers("count", 0, 0, 0, 0, 1), 1);
    }
}
