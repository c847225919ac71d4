/** Each promise by answers worked out by hand from the document. */
public final class PromisesTest {
    private static final int LEAST = Integer.MIN_VALUE, MOST = Integer.MAX_VALUE;

    public static void main(String[] args) {
        promise1NewObject();
        promise2Type();
        promise3Clear();
        promise4Begins();
        promise4BeginsEdges();
        promise5Packs();
        promise5Halves();
        promise5Forgets();
        promise6Word();
        promise7Cuts();
        promise8Undo();
        promise9Sign();
        promise10Count();
        promise11Bit();
        promise12Chance();
        promise13Escapes();
        promise14Likeliest();
        promise15Length();
        promise16Best();
        promise17Unpacked();
        promise18Agrees();
        promise19Keep();
        promise20Back();
        promise21Told();
        Due.ends("PromisesTest");
    }

    private static void promise1NewObject() {
        LongestPast x = new LongestPast();
        int[] want = {0, 0, 0, 0, 0, 0, 65535, 2, 7, 24, 4, 0, 0};
        for (int i = 0; i < want.length; i++) Due.due("1: told(" + i + ")", x.told(i), want[i]);
        Due.due("1: bit(0)", x.bit(0), LongestPast.NONE);
        Due.due("1: back(0)", x.back(0), LongestPast.STATE);
        Due.due("1: back(1)", x.back(1), LongestPast.STATE);
        for (int s = 0; s < 4; s++) {
            Due.due("1: chance upper", x.chance(s, 0), 1);
            Due.due("1: chance lower", x.chance(s, 1), 4);
        }
    }

    private static void promise2Type() {
        LongestPast x = new LongestPast();
        Due.due("2: type(0)", x.type(0), 1);
        Due.due("2: type(255)", x.type(255), 2);
        Due.due("2: type(-1)", x.type(-1), LongestPast.BAD);
        Due.due("2: type(256)", x.type(256), LongestPast.BAD);
        Due.due("2: type(LEAST)", x.type(LEAST), LongestPast.BAD);
        Due.due("2: type(MOST)", x.type(MOST), LongestPast.BAD);
        Due.due("2: told(11)", x.told(11), 2);
        for (int i = 3; i <= 200; i++) Due.due("2: type", x.type(97), i);
        Due.due("2: type of the 201st", x.type(97), LongestPast.FULL);
        Due.due("2: BAD comes ahead of FULL", x.type(256), LongestPast.BAD);
        Due.due("2: told(11) when full", x.told(11), 200);
        Due.due("2: nothing is DONE", x.told(12), 0);
    }

    private static void promise3Clear() {
        LongestPast x = new LongestPast();
        Due.due("3: clear() of nothing", x.clear(), 0);
        Due.types(x, "abcx");
        Due.due("3: clear()", x.clear(), 4);
        Due.due("3: told(11)", x.told(11), 0);
        Due.due("3: nothing is DONE", x.told(12), 0);
        Due.due("3: type behind it", x.type('d'), 1);
        Due.due("3: word behind it", x.word(), 1);
        Due.due("3: the letter", x.sign(0), 3);
    }

    private static void promise4Begins() {
        LongestPast x = Due.packed(3, 2, 4, 2, "abcdabcd");
        Due.types(x, "ab");
        Due.must("4: something was FORGOTTEN", x.told(2) > 0);
        Due.due("4: begins", x.begins(1, 3, 10, 2), 8);
        int[] want = {0, 0, 0, 0, 0, 0, 65535, 1, 3, 10, 2, 2, 3};
        for (int i = 0; i < want.length; i++) Due.due("4: told(" + i + ")", x.told(i), want[i]);
        Due.due("4: bit(0)", x.bit(0), LongestPast.NONE);
        Due.due("4: chance", x.chance(0, 1), 4);
        Due.due("4: count", x.count(0, 0, 0, 0, 0), 0);
        Due.due("4: begins of nothing", x.begins(2, 7, 24, 4), 0);
    }

    private static void promise4BeginsEdges() {
        LongestPast x = new LongestPast();
        x.packs(1);
        int[][] bad = {
            {-1, 7, 24, 4}, {4, 7, 24, 4}, {2, 1, 24, 4}, {2, 16, 24, 4}, {2, 7, 3, 4}, {2, 7, 61, 4},
            {2, 7, 24, -1}, {2, 7, 24, 10}, {LEAST, 7, 24, 4}, {MOST, 7, 24, 4}, {2, LEAST, 24, 4},
            {2, MOST, 24, 4}, {2, 7, LEAST, 4}, {2, 7, MOST, 4}, {2, 7, 24, LEAST}, {2, 7, 24, MOST}};
        for (int[] b : bad) Due.due("4: bad begins", x.begins(b[0], b[1], b[2], b[3]), LongestPast.BAD);
        Due.due("4: bad ones change nothing", x.told(0), 1);
        Due.due("4: bad ones are not DONE", x.told(12), 1);
        Due.due("4: ORDER stays", x.told(7), 2);
        Due.due("4: the least", x.begins(0, 2, 4, 0), 1);
        Due.due("4: the least LIMIT", x.told(8), 2);
        Due.due("4: the most", x.begins(3, 15, 60, 9), 0);
        Due.due("4: the most TAIL", x.told(10), 9);
    }

    private static void promise5Packs() {
        LongestPast x = new LongestPast();
        // Of a TOTAL of 4, one wide: 16384 to 32767, so two bits.
        Due.due("5: packs(1)", x.packs(1), -1);
        Due.must("5: bits", Due.bitsOf(x).equals("01"));
        // Of "", 1 of 2.
        Due.due("5: packs(1)", x.packs(1), 0);
        Due.must("5: bits", Due.bitsOf(x).equals("010"));
        // Of "b" the ESCAPE, 1 of 2; of "" none is OPEN; then 1 of 3: 0 to 21844, doubled once.
        Due.due("5: packs(0)", x.packs(0), -1);
        Due.must("5: bits", Due.bitsOf(x).equals("01010"));
        Due.due("5: LOW", x.told(5), 0);
        Due.due("5: HIGH", x.told(6), 43689);
        Due.due("5: THERE", x.told(1), 3);
        // Of "" the ESCAPE, 2 of 5: 26214 to 43689, OWED; then 1 of 2: 19660 to 37135, OWED again.
        Due.due("5: packs(2)", x.packs(2), -1);
        Due.due("5: OWED", x.told(4), 2);
        Due.due("5: LOW", x.told(5), 6552);
        Due.due("5: HIGH", x.told(6), 41503);
        Due.due("5: bits", x.told(3), 5);
        Due.due("5: packs(4)", x.packs(4), -5);
        Due.due("5: packs(-1)", x.packs(-1), -5);
        Due.due("5: packs(LEAST)", x.packs(LEAST), -5);
        Due.due("5: packs(MOST)", x.packs(MOST), -5);
        Due.due("5: bad ones are not DONE", x.told(12), 4);
        for (int i = 5; i <= 60; i++) Due.must("5: packs", x.packs(i % 4) >= -1);
        String text = Due.textOf(x);
        Due.due("5: packs of the 61st", x.packs(0), -6);
        Due.due("5: BAD comes ahead of FULL", x.packs(4), -5);
        Due.due("5: told(0)", x.told(0), 60);
        Due.must("5: nothing changes", text.equals(Due.textOf(x)));
    }

    private static void promise5Halves() {
        // LIMIT 2: each COUNT that becomes 2 is 1 again, those beside it 0.
        LongestPast x = Due.packed(0, 2, 24, 4, "aba");
        Due.due("5: a is 1", x.count(0, 0, 0, 0, 0), 1);
        Due.due("5: b is 0", x.count(0, 0, 0, 0, 1), 0);
        Due.due("5: b is no more FOUND", x.packs(1), -1);
        // LIMIT 15: 14 stands, 15 becomes 7.
        x = Due.packed(0, 15, 24, 4, "bbbaaaaaaaaaaaaaa");
        Due.due("5: 14", x.count(0, 0, 0, 0, 0), 14);
        x.packs(0);
        Due.due("5: 15 halved", x.count(0, 0, 0, 0, 0), 7);
        Due.due("5: 3 halved", x.count(0, 0, 0, 0, 1), 1);
    }

    private static void promise5Forgets() {
        // "", a, b, c are 4 CONTEXTS at "abca"; d behind it makes none more, but "da" does: "d" is the fifth.
        LongestPast x = Due.packed(1, 7, 4, 2, "abcad");
        Due.due("5: 4 are THERE", x.told(1), 4);
        Due.due("5: none FORGOTTEN", x.told(2), 0);
        x.packs(0);
        Due.due("5: FORGOTTEN", x.told(2), 1);
        // Learnt again from "da": "" has d and a, "d" has a.
        Due.due("5: 2 are THERE", x.told(1), 2);
        Due.due("5: a in nothing", x.count(0, 0, 0, 0, 0), 1);
        Due.due("5: d in nothing", x.count(0, 0, 0, 0, 3), 1);
        Due.due("5: b in nothing", x.count(0, 0, 0, 0, 1), 0);
        Due.due("5: a in d", x.count(1, 3, 0, 0, 0), 1);
        Due.due("5: d in a, whose a is outside", x.count(1, 0, 0, 0, 3), 0);
        // TAIL 0: nothing is THERE.
        x = Due.packed(1, 7, 4, 0, "abcada");
        Due.due("5: none is THERE", x.told(1), 0);
        Due.due("5: packs from nothing", x.packs(0), -1);
        // TAIL 9 learns more CONTEXTS than ROOM; the next SIGN makes all FORGOTTEN again.
        x = Due.packed(3, 7, 4, 9, "abcd");
        Due.due("5: THERE above ROOM", x.told(1), 7);
        Due.due("5: FORGOTTEN once", x.told(2), 1);
        x.packs(0);
        Due.due("5: FORGOTTEN again", x.told(2), 2);
    }

    private static void promise6Word() {
        LongestPast x = new LongestPast();
        Due.types(x, "abcd");
        Due.due("6: word()", x.word(), 4);
        Due.must("6: the SIGNS", Due.textOf(x).equals("abcd"));
        Due.due("6: THE TEXT is empty", x.told(11), 0);
        Due.due("6: one is DONE", x.told(12), 1);
        Due.due("6: word() without letters", x.word(), 0);
        Due.due("6: it is DONE, too", x.told(12), 2);
        int[] wrong = {0, 96, 101, 65, 255};
        for (int letter : wrong) {
            x.clear();
            Due.types(x, "ab");
            x.type(letter);
            x.type(letter);
            Due.due("6: word() with letter " + letter, x.word(), -12);
            Due.due("6: THE TEXT stays", x.told(11), 4);
        }
        x.clear();
        x.type(101);
        Due.due("6: the first letter is wrong", x.word(), -10);
        Due.due("6: refused ones are not DONE", x.told(12), 2);
        Due.due("6: refused ones change nothing", x.told(0), 4);
        x.clear();
        for (int i = 0; i < 57; i++) x.type('a' + i % 4);
        Due.due("6: 61 are FULL", x.word(), LongestPast.FULL);
        Due.due("6: THE TEXT stays by FULL", x.told(11), 57);
        Due.due("6: FULL changes nothing", x.told(0), 4);
        x.type('x');
        Due.due("6: a wrong letter comes ahead of FULL", x.word(), -67);
        x.clear();
        for (int i = 0; i < 56; i++) x.type('a' + i % 4);
        Due.due("6: 60 are not FULL", x.word(), 56);
        Due.due("6: without letters it is never FULL", x.word(), 0);
        x.clear();
        for (int i = 0; i < 200; i++) x.type('a');
        Due.due("6: 200 letters", x.word(), LongestPast.FULL);
    }

    private static void promise7Cuts() {
        LongestPast x = Due.packed(3, 3, 6, 5, "abcabdabcdabdcabdb");
        LongestPast y = Due.packed(3, 3, 6, 5, "abcabdabcd");
        Due.due("7: cuts(0)", x.cuts(0), LongestPast.BAD);
        Due.due("7: cuts(-1)", x.cuts(-1), LongestPast.BAD);
        Due.due("7: cuts(LEAST)", x.cuts(LEAST), LongestPast.BAD);
        Due.due("7: cuts(19)", x.cuts(19), LongestPast.STATE);
        Due.due("7: cuts(MOST)", x.cuts(MOST), LongestPast.STATE);
        Due.due("7: refused ones are not DONE", x.told(12), 2);
        Due.due("7: cuts(8)", x.cuts(8), 10);
        Due.must("7: the SIGNS", Due.textOf(x).equals("abcabdabcd"));
        Due.must("7: the bits", Due.bitsOf(x).equals(Due.bitsOf(y)));
        for (int i = 0; i < 7; i++) Due.due("7: as if never PACKED, told(" + i + ")", x.told(i), y.told(i));
        Due.due("7: it is DONE", x.told(12), 3);
        Due.due("7: all of them", x.cuts(10), 0);
        Due.due("7: none is FORGOTTEN then", x.told(2), 0);
        Due.due("7: none is left", x.cuts(1), LongestPast.STATE);
        Due.due("7: BAD comes ahead of STATE", x.cuts(0), LongestPast.BAD);
    }

    private static void promise8Undo() {
        LongestPast x = new LongestPast();
        Due.due("8: undo() of nothing", x.undo(), LongestPast.STATE);
        x.packs(1);
        x.begins(3, 15, 60, 9);
        Due.types(x, "abca");
        x.word();
        x.cuts(2);
        x.word();
        Due.due("8: 5 may be", x.told(12), 5);
        Due.due("8: the empty word", x.undo(), 4);
        Due.due("8: told(0)", x.told(0), 2);
        Due.due("8: the cuts", x.undo(), 3);
        Due.must("8: the SIGNS", Due.textOf(x).equals("abca"));
        Due.due("8: the word", x.undo(), 2);
        Due.due("8: told(0)", x.told(0), 0);
        Due.due("8: THE TEXT does not come again", x.told(11), 0);
        Due.due("8: ORDER", x.told(7), 3);
        Due.due("8: the begins", x.undo(), 1);
        for (int i = 7; i <= 10; i++) Due.due("8: told(" + i + ")", x.told(i), new LongestPast().told(i));
        Due.must("8: the SIGNS", Due.textOf(x).equals("b"));
        Due.must("8: the bits", Due.bitsOf(x).equals("01"));
        Due.due("8: the packs", x.undo(), 0);
        Due.due("8: none", x.undo(), LongestPast.STATE);
        for (int i = 0; i < 9; i++) x.packs(i % 4);
        Due.due("8: 6 are known", x.told(12), 6);
        for (int i = 5; i >= 0; i--) Due.due("8: undo()", x.undo(), i);
        Due.due("8: older ones are lost", x.undo(), LongestPast.STATE);
        Due.must("8: three are left", Due.textOf(x).equals("abc"));
        x.packs(3);
        Due.due("8: one may be", x.told(12), 1);
        Due.due("8: that one", x.undo(), 0);
        Due.must("8: the three", Due.textOf(x).equals("abc"));
    }

    private static void promise9Sign() {
        LongestPast x = Due.packed(2, 7, 24, 4, "dcba");
        for (int i = 0; i < 4; i++) Due.due("9: sign(" + i + ")", x.sign(i), 3 - i);
        Due.due("9: sign(4)", x.sign(4), LongestPast.BAD);
        Due.due("9: sign(-1)", x.sign(-1), LongestPast.BAD);
        Due.due("9: sign(MOST)", x.sign(MOST), LongestPast.BAD);
        Due.due("9: sign(LEAST)", x.sign(LEAST), LongestPast.BAD);
        x.cuts(1);
        Due.due("9: taken back", x.sign(3), LongestPast.BAD);
    }

    private static void promise10Count() {
        LongestPast x = Due.packed(3, 7, 60, 4, "abcdabca");
        // d was FOUND at none, so all lengths learnt it; the second b was FOUND at "a".
        Due.due("10: d in abc", x.count(3, 0, 1, 2, 3), 1);
        Due.due("10: d in cba", x.count(3, 2, 1, 0, 3), 0);
        Due.due("10: d in bc", x.count(2, 1, 2, 0, 3), 1);
        Due.due("10: d in c", x.count(1, 2, 0, 0, 3), 1);
        Due.due("10: b in a", x.count(1, 0, 0, 0, 1), 2);
        Due.due("10: b in nothing", x.count(0, 0, 0, 0, 1), 1);
        // The third a: abc, bc, c have d alone, so it is FOUND at nothing; the second one likewise.
        Due.due("10: a in nothing", x.count(0, 0, 0, 0, 0), 3);
        Due.due("10: a in abc", x.count(3, 0, 1, 2, 0), 1);
        int[][] bad = {
            {-1, 0, 0, 0, 0}, {4, 0, 0, 0, 0}, {0, 1, 0, 0, 0}, {0, 0, 1, 0, 0}, {0, 0, 0, 1, 0}, {1, 0, 1, 0, 0},
            {1, 0, 0, 1, 0}, {2, 0, 0, 1, 0}, {3, 4, 0, 0, 0}, {3, 0, 4, 0, 0}, {3, 0, 0, 4, 0}, {3, -1, 0, 0, 0},
            {3, 0, -1, 0, 0}, {3, 0, 0, -1, 0}, {1, 0, -1, 0, 0}, {0, 0, 0, 0, 4}, {0, 0, 0, 0, -1},
            {MOST, 0, 0, 0, 0}, {LEAST, 0, 0, 0, 0}, {3, MOST, 0, 0, 0}, {3, LEAST, 0, 0, 0},
            {0, 0, 0, 0, MOST}, {0, 0, 0, 0, LEAST}};
        for (int[] b : bad) {
            Due.due("10: bad count", x.count(b[0], b[1], b[2], b[3], b[4]), LongestPast.BAD);
        }
        x.begins(1, 7, 60, 4);
        Due.due("10: j above ORDER", x.count(2, 0, 0, 0, 0), LongestPast.BAD);
        Due.due("10: j as ORDER", x.count(1, 0, 0, 0, 0), 0);
    }

    private static void promise11Bit() {
        LongestPast x = Due.packed(2, 7, 24, 4, "bba");
        int[] want = {0, 1, 0, 1, 0};
        for (int i = 0; i < 5; i++) Due.due("11: bit(" + i + ")", x.bit(i), want[i]);
        Due.due("11: not ENDED", x.bit(5), LongestPast.NONE);
        Due.due("11: bit(MOST)", x.bit(MOST), LongestPast.NONE);
        Due.due("11: bit(-1)", x.bit(-1), LongestPast.BAD);
        Due.due("11: bit(LEAST)", x.bit(LEAST), LongestPast.BAD);
        // "bbac" has LOW 6552, HIGH 41503 and OWED 2. Of "" d is the ESCAPE, 3 of 7: 26524 to 41503, OWED once more;
        // then 1 of 1.
        x.packs(2);
        x.packs(3);
        Due.due("11: OWED", x.told(4), 3);
        Due.due("11: LOW", x.told(5), 20280);
        Due.due("11: HIGH", x.told(6), 50239);
        Due.due("11: OWED bits are not there yet", x.bit(5), LongestPast.NONE);
        // Then of "" the last 1 of 5: 44248 to 50239, so a bit 1 and the three 0 that were OWED.
        x.packs(3);
        Due.must("11: bits", Due.bitsOf(x).equals("010101000"));
        Due.due("11: OWED", x.told(4), 1);
        Due.due("11: LOW", x.told(5), 13152);
        Due.due("11: HIGH", x.told(6), 37119);
    }

    private static void promise12Chance() {
        LongestPast x = Due.packed(2, 7, 24, 4, "bba");
        // Of "" a has 1, b has 2, the ESCAPE 2 of 5; "ba" and "a" have none.
        int[][] want = {{1, 5}, {2, 5}, {1, 5}, {1, 5}};
        for (int s = 0; s < 4; s++) {
            Due.due("12: chance(" + s + ", 0)", x.chance(s, 0), want[s][0]);
            Due.due("12: chance(" + s + ", 1)", x.chance(s, 1), want[s][1]);
        }
        // All four are there: no ESCAPE.
        x = Due.packed(0, 7, 24, 4, "abcddd");
        Due.due("12: without ESCAPE, upper", x.chance(3, 0), 1);
        Due.due("12: without ESCAPE, lower", x.chance(3, 1), 2);
        Due.due("12: chance(4, 0)", x.chance(4, 0), LongestPast.BAD);
        Due.due("12: chance(-1, 0)", x.chance(-1, 0), LongestPast.BAD);
        Due.due("12: chance(0, 2)", x.chance(0, 2), LongestPast.BAD);
        Due.due("12: chance(0, -1)", x.chance(0, -1), LongestPast.BAD);
        Due.due("12: chance(MOST, 0)", x.chance(MOST, 0), LongestPast.BAD);
        Due.due("12: chance(0, LEAST)", x.chance(0, LEAST), LongestPast.BAD);
        // A full TEXT SO FAR still has a CHANCE: "packed next" is only asked.
        x.begins(0, 2, 60, 0);
        for (int i = 0; i < 60; i++) x.packs(0);
        Due.due("12: when full, upper", x.chance(1, 0), 1);
        Due.due("12: when full, lower", x.chance(1, 1), 6);
    }

    private static void promise13Escapes() {
        LongestPast x = new LongestPast();
        Due.due("13: none at first", x.escapes(3, 0), 0);
        Due.due("13: FOUND at none", x.escapes(3, 1), -1);
        // At the end of "abcab": "ab" has c alone, "b" has c alone and it is SHUT, "" has a, b OPEN.
        x = Due.packed(2, 7, 24, 4, "abcab");
        int[] many = {1, 1, 0, 2};
        int[] found = {0, 0, 2, -1};
        for (int s = 0; s < 4; s++) {
            Due.due("13: escapes(" + s + ", 0)", x.escapes(s, 0), many[s]);
            Due.due("13: escapes(" + s + ", 1)", x.escapes(s, 1), found[s]);
            Due.due("13: so it is FOUND", x.packs(s), found[s]);
            x.undo();
        }
        Due.due("13: escapes(4, 0)", x.escapes(4, 0), -5);
        Due.due("13: escapes(-1, 1)", x.escapes(-1, 1), -5);
        Due.due("13: escapes(0, 2)", x.escapes(0, 2), -5);
        Due.due("13: escapes(0, -1)", x.escapes(0, -1), -5);
        Due.due("13: escapes(MOST, LEAST)", x.escapes(MOST, LEAST), -5);
    }

    private static void promise14Likeliest() {
        Due.due("14: of several the least", new LongestPast().likeliest(), 0);
        Due.due("14: bba", Due.packed(2, 7, 24, 4, "bba").likeliest(), 1);
        Due.due("14: abcab", Due.packed(2, 7, 24, 4, "abcab").likeliest(), 2);
        Due.due("14: d", Due.packed(0, 7, 24, 4, "d").likeliest(), 3);
        // 1 of 4 each, the ESCAPE 2 of 4 for two others.
        Due.due("14: dc", Due.packed(0, 7, 24, 4, "dc").likeliest(), 0);
        // 2 of 5 for d, the ESCAPE 2 of 5 for two others, 1 of 5 for b.
        Due.due("14: bdd", Due.packed(0, 7, 24, 4, "bdd").likeliest(), 3);
    }

    private static void promise15Length() {
        LongestPast x = new LongestPast();
        Due.due("15: nothing", x.length(), 2);
        Due.types(x, "bba");
        x.word();
        Due.due("15: bba", x.length(), 7);
        x.packs(2);
        Due.due("15: two OWED", x.length(), 9);
        Due.due("15: nothing is ENDED", x.told(3), 5);
        Due.due("15: nothing is ENDED", x.told(4), 2);
    }

    private static void promise16Best() {
        LongestPast x = new LongestPast();
        Due.due("16: nothing", x.best(), 0);
        Due.types(x, "abcdabcdabcdabcdabcdabcdabcdabcd");
        x.word();
        Due.due("16: the same by 1, 2 and 3 or less", x.best(), leastOrder("abcdabcdabcdabcdabcdabcdabcdabcd", 7, 24, 4));
        String text = "aabbaabbaabbaabbaabbaabbaabbaabb";
        x = Due.packed(0, 15, 60, 4, text);
        Due.due("16: pairs", x.best(), leastOrder(text, 15, 60, 4));
        Due.due("16: pairs want 2", x.best(), 2);
        Due.due("16: ORDER stays", x.told(7), 0);
        Due.due("16: SIGNS stay", x.told(0), 32);
        Due.due("16: ROOM and TAIL matter", Due.packed(0, 15, 4, 0, text).best(), leastOrder(text, 15, 4, 0));
    }

    private static int leastOrder(String text, int limit, int room, int tail) {
        int best = 0;
        int least = MOST;
        for (int order = 0; order < 4; order++) {
            int many = Due.packed(order, limit, room, tail, text).length();
            if (many < least) {
                best = order;
                least = many;
            }
        }
        return best;
    }

    private static void promise17Unpacked() {
        LongestPast x = new LongestPast();
        Due.due("17: no bits are all 0", x.unpacked(0), 0);
        Due.due("17: no bits are all 0", x.unpacked(59), 0);
        Due.types(x, "01010");
        int[] want = {1, 1, 0};
        for (int i = 0; i < 3; i++) Due.due("17: unpacked(" + i + ")", x.unpacked(i), want[i]);
        Due.due("17: THE TEXT stays", x.told(11), 5);
        Due.due("17: nothing is PACKED", x.told(0), 0);
        Due.due("17: unpacked(-1)", x.unpacked(-1), LongestPast.BAD);
        Due.due("17: unpacked(60)", x.unpacked(60), LongestPast.BAD);
        Due.due("17: unpacked(MOST)", x.unpacked(MOST), LongestPast.BAD);
        Due.due("17: unpacked(LEAST)", x.unpacked(LEAST), LongestPast.BAD);
        x.type(50);
        x.type(47);
        Due.due("17: the first letter that is neither", x.unpacked(0), -15);
        Due.due("17: BAD comes ahead of that", x.unpacked(60), LongestPast.BAD);
        x.clear();
        x.type(47);
        Due.due("17: unpacked with 47", x.unpacked(59), -10);
        x.clear();
        for (int i = 0; i < 200; i++) x.type(49);
        Due.due("17: all 1: d", x.unpacked(0), 3);
        unpacksWhatWasPacked("abcdabcadbacbdbacbdabcbdaabcbd", 3, 3, 6, 5);
        unpacksWhatWasPacked("aaaaaaaaaaaaaaaaaaaaaaaaaaaaaabaaaaaaaaaaaac", 0, 15, 60, 0);
        unpacksWhatWasPacked("abcabcabcddddabcabc", 2, 2, 4, 9);
    }

    /** What was packed by one object is unpacked by another one from its bits, ended by hand. */
    private static void unpacksWhatWasPacked(String text, int order, int limit, int room, int tail) {
        LongestPast x = Due.packed(order, limit, room, tail, text);
        StringBuilder bits = new StringBuilder(Due.bitsOf(x));
        int first = x.told(5) < 16384 ? 0 : 1;
        bits.append(first);
        for (int i = 0; i <= x.told(4); i++) bits.append(1 - first);
        Due.due("17: ENDED", bits.length(), x.length());
        LongestPast y = new LongestPast();
        y.begins(order, limit, room, tail);
        Due.types(y, bits.toString());
        for (int i = 0; i < text.length(); i++) Due.due("17: again", y.unpacked(i), text.charAt(i) - 'a');
    }

    private static void promise18Agrees() {
        LongestPast x = new LongestPast();
        Due.due("18: nothing", x.agrees(), 0);
        for (int i = 1; i <= 60; i++) {
            x.packs(i * i % 7 % 4);
            Due.due("18: agrees()", x.agrees(), i);
        }
        Due.due("18: nothing changes", x.told(0), 60);
        x.begins(3, 2, 4, 9);
        for (int i = 1; i <= 60; i++) {
            x.packs(i * i % 11 % 4);
            Due.due("18: agrees()", x.agrees(), i);
        }
    }

    private static void promise19Keep() {
        LongestPast x = Due.packed(1, 3, 10, 2, "abcab");
        Due.due("19: keep(-1)", x.keep(-1), LongestPast.BAD);
        Due.due("19: keep(2)", x.keep(2), LongestPast.BAD);
        Due.due("19: keep(MOST)", x.keep(MOST), LongestPast.BAD);
        Due.due("19: keep(LEAST)", x.keep(LEAST), LongestPast.BAD);
        Due.due("19: keep(0)", x.keep(0), 5);
        Due.due("19: nothing changes", x.told(0), 5);
        Due.due("19: it is not DONE", x.told(12), 2);
        Due.due("19: the other one is not kept", x.back(1), LongestPast.STATE);
        x.packs(3);
        Due.due("19: keep(0) again", x.keep(0), 6);
        x.cuts(6);
        Due.due("19: the later one", x.back(0), 6);
        x.cuts(6);
        Due.due("19: of nothing", x.keep(1), 0);
        x.packs(2);
        Due.due("19: nothing again", x.back(1), 0);
    }

    private static void promise20Back() {
        LongestPast x = Due.packed(3, 3, 6, 5, "abcabdabcd");
        LongestPast y = Due.packed(3, 3, 6, 5, "abcabdabcd");
        x.keep(0);
        x.begins(1, 15, 60, 0);
        x.packs(3);
        x.keep(1);
        Due.types(x, "xyz");
        Due.due("20: back(-1)", x.back(-1), LongestPast.BAD);
        Due.due("20: back(2)", x.back(2), LongestPast.BAD);
        Due.due("20: back(MOST)", x.back(MOST), LongestPast.BAD);
        Due.due("20: refused ones change nothing", x.told(12), 4);
        Due.due("20: back(0)", x.back(0), 10);
        for (int i = 0; i <= 10; i++) Due.due("20: told(" + i + ")", x.told(i), y.told(i));
        Due.must("20: the SIGNS", Due.textOf(x).equals("abcabdabcd"));
        Due.must("20: the bits", Due.bitsOf(x).equals(Due.bitsOf(y)));
        Due.due("20: THE TEXT stays", x.told(11), 3);
        Due.due("20: nothing can be UNDONE", x.told(12), 0);
        Due.due("20: nothing can be UNDONE", x.undo(), LongestPast.STATE);
        Due.due("20: back(1)", x.back(1), 1);
        Due.due("20: ORDER", x.told(7), 1);
        Due.due("20: the same one again", x.back(0), 10);
        x.packs(0);
        Due.due("20: what comes behind it can be", x.undo(), 0);
        Due.due("20: and has what was", x.told(0), 10);
        LongestPast z = new LongestPast();
        z.packs(1);
        Due.due("20: none was kept", z.back(0), LongestPast.STATE);
        Due.due("20: that changes nothing", z.told(12), 1);
    }

    private static void promise21Told() {
        LongestPast x = Due.packed(3, 6, 30, 5, "bbac");
        Due.types(x, "zzz");
        int[] want = {4, 6, 0, 5, 2, 6552, 41503, 3, 6, 30, 5, 3, 2};
        for (int i = 0; i < want.length; i++) Due.due("21: told(" + i + ")", x.told(i), want[i]);
        Due.due("21: told(-1)", x.told(-1), LongestPast.BAD);
        Due.due("21: told(13)", x.told(13), LongestPast.BAD);
        Due.due("21: told(MOST)", x.told(MOST), LongestPast.BAD);
        Due.due("21: told(LEAST)", x.told(LEAST), LongestPast.BAD);
        x = Due.packed(3, 7, 4, 3, "abcdabcd");
        Due.due("21: FORGOTTEN", x.told(2), 5);
    }
}
