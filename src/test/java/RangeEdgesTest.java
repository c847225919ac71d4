/**
 * The boundaries of WRITTEN, ENDED and UNPACKED, a test for each sentence. The texts were found by search: in each of
 * them LOW, HIGH or VALUE is just at the number that the sentence names, or next to it.
 */
public final class RangeEdgesTest {
    public static void main(String[] args) {
        wholeAtFirst();
        highBelow32768();
        lowFrom32768On();
        lowFrom16384On();
        highBelow49152();
        owedBitsBehindABit0();
        owedBitsBehindABit1();
        theDearestText();
        endedLength();
        endedByLow();
        valueIsTheFirst16Bits();
        zerosBehindAllOfThem();
        zerosWhereALongerRowWas();
        valueOnBothSidesOfASign();
        valueOnBothSidesOfTheEscape();
        valueBehindTheEscape();
        theLastLetterOf200();
        Due.ends("RangeEdgesTest");
    }

    /** "LOW 0, HIGH 65535, OWED 0 at first." */
    private static void wholeAtFirst() {
        Due.written(Run.none(), "", 0, 0, 65535);
        Due.written(Run.packing(3, 15, 60, 9, ""), "", 0, 0, 65535);
        Due.written(Run.none().packs("bbac").then("begins", 0, 2, 4, 0), "", 0, 0, 65535);
        Due.written(Run.none().packs("bbac").then("cuts", 4), "", 0, 0, 65535);
    }

    /** "if HIGH is below 32768, a bit 0 comes to THE BITS" */
    private static void highBelow32768() {
        // a is 0 to 16383, a bit 0: 0 to 32767, so one more.
        Due.written(Run.none().packs("a"), "00", 0, 0, 65535);
        // Behind "aacabaa" 26112 to 49411: the first 2 of 7 are 26112 to 32768, which is OWED, not a bit 0.
        Due.written(Run.packing(1, 3, 24, 0, "aacabaa"), "000101100110", 0, 26112, 49411);
        Due.written(Run.packing(1, 3, 24, 0, "aacabaaa"), "000101100110", 2, 6144, 32771);
        // Behind "ac" 10922 to 54611: the second one of 4 is 21844 to 32766.
        Due.written(Run.packing(0, 15, 60, 0, "acc"), "001011", 0, 21840, 65531);
    }

    /** "else, if LOW is 32768 or more, a bit 1" */
    private static void lowFrom32768On() {
        // c is 32768 to 49151, a bit 1: 0 to 32767, so a bit 0.
        Due.written(Run.none().packs("c"), "10", 0, 0, 65535);
        // The ESCAPE behind "ab", as part of 10922 to 54611: the second one of 2 is 32767 to 54611, no bit.
        Due.written(Run.packing(0, 15, 60, 0, "abd"), "0010", 1, 32767, 54611);
        // Of 32767 to 54611 the second half is 43689 to 54611: a bit 1.
        Due.written(Run.packing(0, 15, 60, 0, "acd"), "00110", 1, 10916, 54607);
    }

    /** "else, if LOW is 16384 or more .., OWED is 1 more" */
    private static void lowFrom16384On() {
        // Behind "bcaad" 21760 to 50879: the last 1 of 5 is 45056 to 50879, a bit 1: 24576 to 36223, OWED: 16384 to
        // 39679, OWED once more.
        Due.written(Run.packing(1, 7, 24, 4, "bcaad"), "0111000001", 0, 21760, 50879);
        Due.written(Run.packing(1, 7, 24, 4, "bcaadd"), "01110000011", 2, 0, 46591);
        // Behind "ddbcbdbabb" 12596 to 50473: 1 to 6 of 10 is 16383 to 35321, and that is all.
        Due.written(Run.packing(0, 15, 60, 0, "ddbcbdbabb"), "1101101111000110100", 0, 12596, 50473);
        Due.written(Run.packing(0, 15, 60, 0, "ddbcbdbabbb"), "1101101111000110100", 0, 16383, 35321);
    }

    /** ".. and HIGH below 49152" */
    private static void highBelow49152() {
        // Behind "dbaac" 21760 to 50879: 3 to 4 of 5 is 39232 to 45055, bits 1 and 0: 25856 to 49151, OWED.
        Due.written(Run.packing(1, 15, 60, 0, "dbaac"), "1111000001", 0, 21760, 50879);
        Due.written(Run.packing(1, 15, 60, 0, "dbaacc"), "111100000110", 1, 18944, 65535);
        // Behind "bcbbbbbb" 32512 to 59137: 5 of 8 is 32512 to 49152, and that is all.
        Due.written(Run.packing(1, 15, 60, 0, "bcbbbbbb"), "01101", 7, 32512, 59137);
        Due.written(Run.packing(1, 15, 60, 0, "bcbbbbbbb"), "01101", 7, 32512, 49152);
    }

    /** "a bit 0 comes to THE BITS, then OWED bits 1 (OWED is 0 then)" */
    private static void owedBitsBehindABit0() {
        Due.written(Run.packing(0, 15, 60, 0, "a"), "00", 0, 0, 65535);
        // One OWED: 10922 to 21843 is a bit 0, then 1; then 21844 to 43687 is OWED anew.
        Due.written(Run.packing(0, 15, 60, 0, "ac"), "001", 1, 10922, 54611);
        Due.written(Run.packing(0, 15, 60, 0, "aca"), "001" + "01", 1, 10920, 54607);
        // Two OWED: 6528 to 12352 is a bit 0, then 1, 1; then one more bit 0 alone.
        Due.written(Run.packing(1, 3, 24, 0, "aacaba"), "00010110", 2, 6528, 41479);
        Due.written(Run.packing(1, 3, 24, 0, "aacabaa"), "00010110" + "011" + "0", 0, 26112, 49411);
    }

    /** "a bit 1, then OWED bits 0 (OWED is 0 then)" */
    private static void owedBitsBehindABit1() {
        Due.written(Run.packing(0, 15, 60, 0, "d"), "11", 0, 0, 65535);
        // One OWED: 43689 to 54611 is a bit 1, then 0; then 21842 to 43687 is OWED anew.
        Due.written(Run.packing(0, 15, 60, 0, "acd"), "001" + "10", 1, 10916, 54607);
        // Five OWED: the ESCAPE 47312 to 61871 is a bit 1, then 0 five times; then one more bit 1 alone.
        Due.written(Run.packing(1, 7, 24, 4, "bcaa"), "011", 5, 32752, 61871);
        Due.written(Run.packing(1, 7, 24, 4, "bcaad"), "011" + "100000" + "1", 0, 21760, 50879);
    }

    /** The dearest 60 SIGNS that were found: none of its bits is lost. */
    private static void theDearestText() {
        Run run = Run.none().then("begins", 3, 15, 8, 5).types("abacbc".repeat(10)).then("word");
        Due.written(run, "001000100100111101000010100111100001011100110100000101111100101110001111100110100111101001011111"
            + "011011101000011110111000001010010010100010110101001010011000000000011110101111010111100111110111000",
            0, 4320, 45055);
        Due.due("ENDED", run.answers("length"), 197);
        Due.due("unpacked again", run.answers("agrees"), 60);
    }

    /** "ENDED: OWED is 1 more; .. a bit 0, then OWED bits 1; else a bit 1, then OWED bits 0." */
    private static void endedLength() {
        Due.due("nothing", Run.none().answers("length"), 2);
        Due.due("none OWED", Run.packing(0, 15, 60, 0, "a").answers("length"), 2 + 2);
        Due.due("one OWED", Run.packing(0, 15, 60, 0, "ac").answers("length"), 3 + 3);
        Due.due("seven OWED", Run.packing(1, 15, 60, 0, "bcbbbbbbb").answers("length"), 5 + 9);
    }

    /** "if LOW is below 16384, a bit 0, ..; else a bit 1" */
    private static void endedByLow() {
        ended(Run.packing(0, 15, 60, 0, "bbbabaabbbb"), 16383, "01");
        ended(Run.packing(0, 15, 60, 0, "abddaaa"), 16384, "1000");
        ended(Run.packing(0, 15, 60, 0, "ad"), 21844, "10");
        ended(Run.packing(0, 15, 60, 0, "acb"), 32766, "1000");
        ended(Run.packing(1, 15, 60, 0, "bcbbbbbbb"), 32512, "100000000");
    }

    private static void ended(Run run, int low, String end) {
        String text = run.text();
        Due.due("LOW of " + text, run.told(5), low);
        Due.due("LENGTH of " + text, run.answers("length"), run.told(3) + end.length());
        Due.due("agrees, " + text, run.answers("agrees"), text.length());
        Run other = run.types(run.bits() + end);
        Due.text("unpacked by another end", other.unpacked().substring(0, text.length()), text);
    }

    /** "VALUE is the first 16 bits, as a number (the first bit the highest)" */
    private static void valueIsTheFirst16Bits() {
        String[] rows = {"01011101011111", "001000011000010", "0110001001010100"};
        String[] by0 = {"bbdbabca", "ababdaad", "baadbdda"};
        String[] by1 = {"bbdbabcb", "ababdaba", "baadbdca"};
        // The 15th, the 16th and the 17th bit each tell one SIGN from another.
        for (int i = 0; i < rows.length; i++) {
            Due.text(rows[i] + "0", unpacks(rows[i] + "0", 8), by0[i]);
            Due.text(rows[i] + "1", unpacks(rows[i] + "1", 8), by1[i]);
            Due.text(rows[i], unpacks(rows[i], 8), by0[i]);
        }
    }

    /** "from a row of bits (0 behind all of them)" */
    private static void zerosBehindAllOfThem() {
        String[] rows = {"", "1", "11", "010111010111111", "0010000110000101", "01100010010101001"};
        for (String row : rows) {
            String all = Run.none().types(row).unpacked();
            Due.text(row + " and one 0", Run.none().types(row + "0").unpacked(), all);
            Due.text(row + " and 0 up to 200", Run.none().types(row + "0".repeat(200 - row.length())).unpacked(), all);
        }
        Due.text("no bits", Run.none().unpacked(), "a".repeat(60));
    }

    private static void zerosWhereALongerRowWas() {
        for (String row : new String[] {"", "0", "01", "010111010111111", "0010000110000101"}) {
            String all = Run.none().types(row).unpacked();
            Run longer = Run.none().types("1".repeat(200)).then("unpacked", 59).then("clear").types(row);
            Due.text(row + ", behind 200 bits 1", longer.unpacked(), all);
            Run asked = Run.none().packs("d".repeat(60)).then("agrees").then("best").types(row);
            Due.text(row + ", behind agrees()", asked.unpacked(), all);
        }
    }

    /** "that PART .. is written in which v lies (it begins with v or less, and ends above v)" */
    private static void valueOnBothSidesOfASign() {
        int[] values = {0, 16383, 16384, 32767, 32768, 49151, 49152, 65535};
        for (int i = 0; i < values.length; i++) {
            Due.text("first SIGN of " + values[i], unpacks(row(values[i]), 1), "abcd".substring(i / 2, i / 2 + 1));
        }
    }

    private static void valueOnBothSidesOfTheEscape() {
        // Behind a, which is 00: a 1 of 2, the ESCAPE 1 of 2.
        Due.text("below the ESCAPE", unpacks("00" + row(32767), 2), "aa");
        Due.text("at the ESCAPE, then all 0", unpacks("00" + row(32768), 2), "ab");
        Due.text("at its end", unpacks("00" + row(65535) + "1".repeat(16), 2), "ad");
    }

    private static void valueBehindTheEscape() {
        // Behind a and the ESCAPE, which are 001: b, c, d of 3, with VALUE's last bit between them.
        int[] values = {0, 21844, 21845, 43689, 43690, 65535};
        for (int i = 0; i < values.length; i++) {
            Due.text("second SIGN of " + values[i], unpacks("001" + row(values[i]), 2), "a" + "bcd".charAt(i / 2));
        }
    }

    private static void theLastLetterOf200() {
        String row = "001000100100111101000010100111100001011100110100000101111100101110001111100110100111101001011111"
            + "0110111010000111101110000010100100101000101101010010100110000000000111101011110101111001111101110000001";
        Run run = Run.none().then("begins", 3, 15, 8, 5).types(row);
        Due.due("letters", run.told(11), 199);
        String end = "abacbc".repeat(10).substring(0, 59);
        Due.text("199", run.unpacked(), end + "b");
        Due.text("the 200th is 0", run.types("0").unpacked(), end + "b");
        Due.text("the 200th is 1", run.types("1").unpacked(), end + "c");
    }

    private static String unpacks(String bits, int many) {
        return Run.none().then("begins", 0, 15, 60, 0).types(bits).unpacked().substring(0, many);
    }

    private static String row(int value) {
        StringBuilder bits = new StringBuilder();
        for (int i = 15; i >= 0; i--) bits.append(value >> i & 1);
        return bits.toString();
    }
}
