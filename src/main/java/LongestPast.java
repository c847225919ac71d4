/**
 * Text packed by its longest known past. What each call must answer stands in DOC.md, as promises 1 to 21;
 * words in capitals are that document's.
 */
public final class LongestPast {
    public static final int BAD = -1, STATE = -2, FULL = -3, NONE = -9;

    // packs() and escapes() may answer -1 in earnest, so they have codes of their own.
    private static final int BAD_BESIDE_FOUND = -5, FULL_BESIDE_FOUND = -6;
    private static final int FIRST_WRONG_LETTER = -10;

    private static final int SIGNS = 4, ESCAPE = SIGNS, ALL_SIGNS = 15;
    private static final int MOST_ORDER = 3, MOST_LIMIT = 15, MOST_ROOM = 60, MOST_TAIL = 9;
    private static final int LEAST_LIMIT = 2, LEAST_ROOM = 4;
    private static final int MOST_SIGNS = 60, MOST_LETTERS = 200, MOST_UNDONE = 6, IMAGES = 2;
    // One CONTEXT of no SIGN, 4 of one, 16 of two, 64 of three.
    private static final int CONTEXTS = 85, NO_CONTEXT = -1;
    // Three ESCAPES of 1 by 15 are the dearest that a SIGN can be: less than 12 bits. ENDED adds two.
    private static final int MOST_BITS = 12 * MOST_SIGNS + 2;
    private static final int QUARTER = 16384, HALF = 32768, THREE_QUARTERS = 49152, TOP = 65535;
    private static final int VALUE_BITS = 16;
    // Each doubling doubles the range, which has 16 bits: 16 are enough, and this is far above them.
    private static final int MOST_DOUBLINGS = 64;
    // Euclid's steps on two ints are 46 at the most.
    private static final int MOST_DIVISIONS = 64;
    private static final int LETTER_A = 97, LETTER_0 = 48;

    private final Row letters = new Row(MOST_LETTERS);
    private final Packer now = new Packer();
    // Packs and unpacks what is only asked about, so that nothing of what is so now is touched.
    private final Packer trial = new Packer();
    private final Odds odds = new Odds();
    private final History history = new History();
    private final Past firstImage = new Past();
    private final Past secondImage = new Past();
    private boolean firstKept = false;
    private boolean secondKept = false;

    public LongestPast() {
    }

    public int type(int letter) {
        if (letter < 0 || letter > 255) return BAD;
        if (letters.isFull()) return FULL;
        letters.puts(letter);
        return letters.size;
    }

    public int clear() {
        int had = letters.size;
        letters.shortens(0);
        return had;
    }

    public int begins(int order, int limit, int room, int tail) {
        if (!isWithin(order, 0, MOST_ORDER) || !isWithin(limit, LEAST_LIMIT, MOST_LIMIT)) return BAD;
        if (!isWithin(room, LEAST_ROOM, MOST_ROOM) || !isWithin(tail, 0, MOST_TAIL)) return BAD;
        int had = now.past.signs.size;
        history.remembers(now.past);
        now.past.setsOut(order, limit, room, tail);
        now.repacks();
        return had;
    }

    public int packs(int sign) {
        if (!isSign(sign)) return BAD_BESIDE_FOUND;
        if (now.past.signs.isFull()) return FULL_BESIDE_FOUND;
        history.remembers(now.past);
        now.past.signs.puts(sign);
        return now.packsNext();
    }

    public int word() {
        int wrong = firstLetterOutside(LETTER_A, SIGNS);
        if (wrong >= 0) return FIRST_WRONG_LETTER - wrong;
        int many = letters.size;
        if (now.past.signs.size + many > MOST_SIGNS) return FULL;
        history.remembers(now.past);
        for (int i = 0; i < many; i++) {
            now.past.signs.puts(letters.at(i) - LETTER_A);
            now.packsNext();
        }
        letters.shortens(0);
        return many;
    }

    public int cuts(int n) {
        if (n < 1) return BAD;
        if (n > now.past.signs.size) return STATE;
        history.remembers(now.past);
        now.past.signs.shortens(now.past.signs.size - n);
        now.repacks();
        return now.past.signs.size;
    }

    public int undo() {
        if (history.known == 0) return STATE;
        history.recalls(now.past);
        now.repacks();
        return history.known;
    }

    public int sign(int i) {
        if (i < 0 || i >= now.past.signs.size) return BAD;
        return now.past.signs.at(i);
    }

    public int count(int j, int a, int b, int c, int sign) {
        if (j < 0 || j > now.past.order || !isSign(sign)) return BAD;
        if (!isContextSign(a, j > 0) || !isContextSign(b, j > 1) || !isContextSign(c, j > 2)) return BAD;
        int place = 0;
        if (j > 0) place = longerContext(place, a);
        if (j > 1) place = longerContext(place, b);
        if (j > 2) place = longerContext(place, c);
        return now.contexts.at(place, sign);
    }

    public int bit(int i) {
        if (i < 0) return BAD;
        return i < now.range.bits.size ? now.range.bits.at(i) : NONE;
    }

    public int chance(int sign, int what) {
        if (!isSign(sign) || !isWithin(what, 0, 1)) return BAD;
        now.weighs(odds, sign);
        return odds.inLeastTerms(what == 0 ? odds.upper : odds.lower);
    }

    public int escapes(int sign, int what) {
        if (!isSign(sign) || !isWithin(what, 0, 1)) return BAD_BESIDE_FOUND;
        int found = now.weighs(odds, sign);
        return what == 0 ? odds.escaped : found;
    }

    public int likeliest() {
        int likeliest = 0;
        long upper = 0;
        long lower = 1;
        for (int sign = 0; sign < SIGNS; sign++) {
            now.weighs(odds, sign);
            if (odds.upper * lower > upper * odds.lower) {
                likeliest = sign;
                upper = odds.upper;
                lower = odds.lower;
            }
        }
        return likeliest;
    }

    public int length() {
        return now.range.endedSize();
    }

    public int best() {
        int best = 0;
        int least = 0;
        for (int order = 0; order <= MOST_ORDER; order++) {
            trial.past.becomes(now.past);
            trial.past.order = order;
            trial.repacks();
            int size = trial.range.endedSize();
            if (order == 0 || size < least) {
                best = order;
                least = size;
            }
        }
        return best;
    }

    public int unpacked(int i) {
        if (!isWithin(i, 0, MOST_SIGNS - 1)) return BAD;
        int wrong = firstLetterOutside(LETTER_0, 2);
        if (wrong >= 0) return FIRST_WRONG_LETTER - wrong;
        trial.startsLike(now.past);
        for (int k = 0; k < letters.size; k++) trial.range.bits.puts(letters.at(k) - LETTER_0);
        trial.range.startsReading();
        for (int k = 0; k < i; k++) trial.readsNext();
        return trial.readsNext();
    }

    public int agrees() {
        trial.startsLike(now.past);
        trial.range.endsLike(now.range);
        trial.range.startsReading();
        int many = now.past.signs.size;
        for (int i = 0; i < many; i++) {
            if (trial.readsNext() != now.past.signs.at(i)) return i;
        }
        return many;
    }

    public int keep(int image) {
        if (!isWithin(image, 0, IMAGES - 1)) return BAD;
        if (image == 0) {
            firstImage.becomes(now.past);
            firstKept = true;
        } else {
            secondImage.becomes(now.past);
            secondKept = true;
        }
        return now.past.signs.size;
    }

    public int back(int image) {
        if (!isWithin(image, 0, IMAGES - 1)) return BAD;
        if (image == 0 ? !firstKept : !secondKept) return STATE;
        now.past.becomes(image == 0 ? firstImage : secondImage);
        now.repacks();
        history.losesAll();
        return now.past.signs.size;
    }

    public int told(int what) {
        switch (what) {
            case 0: return now.past.signs.size;
            case 1: return now.contexts.there;
            case 2: return now.forgotten;
            case 3: return now.range.bits.size;
            case 4: return now.range.owed;
            case 5: return now.range.low;
            case 6: return now.range.high;
            case 7: return now.past.order;
            case 8: return now.past.limit;
            case 9: return now.past.room;
            case 10: return now.past.tail;
            case 11: return letters.size;
            case 12: return history.known;
            default: return BAD;
        }
    }

    private static boolean isWithin(int number, int least, int most) {
        return number >= least && number <= most;
    }

    private static boolean isSign(int number) {
        return isWithin(number, 0, SIGNS - 1);
    }

    private static boolean isContextSign(int number, boolean used) {
        return used ? isSign(number) : number == 0;
    }

    /** Place of the CONTEXT that has one later SIGN more: all CONTEXTS stand in one tree, four below each. */
    private static int longerContext(int place, int sign) {
        return SIGNS * place + 1 + sign;
    }

    /** Place of the first letter that is none of so many from first on; -1 if there is none. */
    private int firstLetterOutside(int first, int many) {
        for (int i = 0; i < letters.size; i++) {
            if (!isWithin(letters.at(i), first, first + many - 1)) return i;
        }
        return -1;
    }

    /** Numbers one behind another, up to a most; whatever is asked for behind the last one is 0. */
    private static final class Row {
        private final int[] items;
        private int size = 0;

        Row(int most) {
            items = new int[Math.max(most, 0)];
        }

        boolean isFull() {
            return size >= items.length;
        }

        int at(int i) {
            return i >= 0 && i < size && i < items.length ? items[i] : 0;
        }

        void puts(int item) {
            if (size < 0 || size >= items.length) return;
            items[size] = item;
            size++;
        }

        void shortens(int many) {
            if (many >= 0 && many < size) size = many;
        }

        void copies(Row other) {
            int many = other.size;
            size = 0;
            for (int i = 0; i < many; i++) puts(other.at(i));
        }
    }

    /** ORDER, LIMIT, ROOM, TAIL and TEXT SO FAR: all else comes of these. */
    private static final class Past {
        private int order = 2;
        private int limit = 7;
        private int room = 24;
        private int tail = 4;
        private final Row signs = new Row(MOST_SIGNS);

        void setsOut(int newOrder, int newLimit, int newRoom, int newTail) {
            order = newOrder;
            limit = newLimit;
            room = newRoom;
            tail = newTail;
            signs.shortens(0);
        }

        void becomes(Past other) {
            setsOut(other.order, other.limit, other.room, other.tail);
            signs.copies(other.signs);
        }

        /** Place of THE CONTEXT of so many SIGNS ahead of a place of TEXT SO FAR. */
        int contextAhead(int end, int many) {
            int place = 0;
            for (int i = end - many; i < end; i++) place = longerContext(place, signs.at(i));
            return place;
        }
    }

    /** What could be UNDONE: the latest six, in a ring. */
    private static final class History {
        private final Past[] ring = new Past[MOST_UNDONE];
        private int next = 0;
        private int known = 0;

        History() {
            for (int i = 0; i < ring.length; i++) ring[i] = new Past();
        }

        void remembers(Past past) {
            if (next < 0 || next >= ring.length || ring[next] == null) return;
            ring[next].becomes(past);
            next = next + 1 < ring.length ? next + 1 : 0;
            known = Math.min(known + 1, ring.length);
        }

        void recalls(Past past) {
            if (known <= 0) return;
            int latest = next > 0 ? next - 1 : ring.length - 1;
            if (latest < 0 || latest >= ring.length || ring[latest] == null) return;
            past.becomes(ring[latest]);
            next = latest;
            known--;
        }

        void losesAll() {
            known = 0;
        }
    }

    /** The COUNTS of all CONTEXTS, and how many CONTEXTS are THERE. */
    private static final class Contexts {
        private final int[] counts = new int[CONTEXTS * SIGNS];
        private int there = 0;

        void empties() {
            for (int i = 0; i < counts.length; i++) counts[i] = 0;
            there = 0;
        }

        int at(int place, int sign) {
            int i = SIGNS * place + sign;
            return i >= 0 && i < counts.length ? counts[i] : 0;
        }

        void raises(int place, int sign, int limit) {
            int first = SIGNS * place;
            if (first < 0 || first > counts.length - SIGNS || sign < 0 || sign >= SIGNS) return;
            int sum = 0;
            for (int i = first; i < first + SIGNS; i++) sum += counts[i];
            // Halving leaves LIMIT's half, 1 at least: a CONTEXT that is THERE stays so till all is FORGOTTEN.
            if (sum == 0) there++;
            counts[first + sign]++;
            if (counts[first + sign] != limit) return;
            for (int i = first; i < first + SIGNS; i++) counts[i] /= 2;
        }
    }

    /** The PARTS that may be written at one CONTEXT: those of the SIGNS, and the ESCAPE's behind them. */
    private static final class Stage {
        private final int[] widths = new int[SIGNS + 1];
        private int total = 0;
        private int shut = 0;
        private int open = 0;

        void shutsNone() {
            shut = 0;
        }

        void shutsOpen() {
            shut |= open;
        }

        /** At NO_CONTEXT each SIGN that is not SHUT is 1 wide, and nothing is left to escape to. */
        void shows(Contexts contexts, int place) {
            open = 0;
            total = 0;
            for (int sign = 0; sign < SIGNS && sign < widths.length; sign++) {
                int width = place == NO_CONTEXT ? 1 : contexts.at(place, sign);
                if ((shut >> sign & 1) != 0) width = 0;
                if (width > 0) open |= 1 << sign;
                widths[sign] = width;
                total += width;
            }
            int escape = place == NO_CONTEXT || (open | shut) == ALL_SIGNS ? 0 : Integer.bitCount(open);
            if (ESCAPE < widths.length) widths[ESCAPE] = escape;
            total += escape;
        }

        int width(int choice) {
            return choice >= 0 && choice < widths.length ? widths[choice] : 0;
        }

        int beginOf(int choice) {
            int begin = 0;
            for (int i = 0; i < choice; i++) begin += width(i);
            return begin;
        }

        int choiceFor(int sign) {
            return width(sign) > 0 ? sign : ESCAPE;
        }

        int choiceAt(int v) {
            int end = 0;
            for (int sign = 0; sign < SIGNS; sign++) {
                end += width(sign);
                if (v < end) return sign;
            }
            return ESCAPE;
        }
    }

    /** Says at each CONTEXT which PART it is, and does with it what PARTS are wanted for. */
    private abstract static class Taker {
        /** A SIGN, or ESCAPE. */
        abstract int chooses(Stage stage);

        abstract void takes(int begin, int width, int total);
    }

    /** PARTS of a SIGN multiplied. */
    private static final class Odds extends Taker {
        private int wanted = 0;
        private int escaped = 0;
        private long upper = 1;
        private long lower = 1;

        void wants(int sign) {
            wanted = sign;
            // Each PART but the last one is an ESCAPE's.
            escaped = -1;
            upper = 1;
            lower = 1;
        }

        int chooses(Stage stage) {
            return stage.choiceFor(wanted);
        }

        void takes(int begin, int width, int total) {
            escaped++;
            upper *= width;
            lower *= total;
        }

        int inLeastTerms(long number) {
            long divisor = lower;
            long rest = upper;
            for (int k = 0; k < MOST_DIVISIONS && rest != 0; k++) {
                long next = divisor % rest;
                divisor = rest;
                rest = next;
            }
            return divisor == 0 ? 0 : (int) (number / divisor);
        }
    }

    /** LOW and HIGH, and THE BITS: those WRITTEN, or those that are read by VALUE. */
    private static final class Range extends Taker {
        private final Row bits = new Row(MOST_BITS);
        private int low = 0;
        private int high = TOP;
        private int owed = 0;
        private int wanted = 0;
        private boolean reading = false;
        private int value = 0;
        private int nextRead = 0;

        void startsWriting() {
            bits.shortens(0);
            isWhole();
            reading = false;
        }

        /** What is to be read stands in the bits already. */
        void startsReading() {
            isWhole();
            reading = true;
            value = 0;
            for (int k = 0; k < VALUE_BITS; k++) value = 2 * value + bits.at(k);
            nextRead = VALUE_BITS;
        }

        void endsLike(Range other) {
            bits.copies(other.bits);
            reading = false;
            owed = other.owed + 1;
            writesBit(other.low < QUARTER ? 0 : 1);
        }

        int endedSize() {
            return bits.size + owed + 2;
        }

        void wants(int sign) {
            wanted = sign;
        }

        int chooses(Stage stage) {
            if (!reading) return stage.choiceFor(wanted);
            int wide = high - low + 1;
            int v = wide > 0 ? ((value - low + 1) * stage.total - 1) / wide : 0;
            return stage.choiceAt(v);
        }

        void takes(int begin, int width, int total) {
            if (total <= 0) return;
            int wide = high - low + 1;
            high = low + wide * (begin + width) / total - 1;
            low = low + wide * begin / total;
            for (int k = 0; k < MOST_DOUBLINGS; k++) {
                if (high < HALF) {
                    writesBit(0);
                    doubles(0);
                } else if (low >= HALF) {
                    writesBit(1);
                    doubles(HALF);
                } else if (low >= QUARTER && high < THREE_QUARTERS) {
                    owed++;
                    doubles(QUARTER);
                } else {
                    return;
                }
            }
        }

        private void isWhole() {
            low = 0;
            high = TOP;
            owed = 0;
        }

        private void doubles(int less) {
            low = 2 * (low - less);
            high = 2 * (high - less) + 1;
            if (!reading) return;
            value = 2 * (value - less) + bits.at(nextRead);
            nextRead++;
        }

        private void writesBit(int bit) {
            if (reading) return;
            bits.puts(bit);
            for (int k = 0; k < owed && k < MOST_BITS; k++) bits.puts(1 - bit);
            owed = 0;
        }
    }

    /** A past, and all that comes of its SIGNS from the first one on. */
    private static final class Packer {
        private final Past past = new Past();
        private final Contexts contexts = new Contexts();
        private final Range range = new Range();
        private final Stage stage = new Stage();
        private int packed = 0;
        private int forgotten = 0;
        private int chosen = 0;

        void startsLike(Past other) {
            past.setsOut(other.order, other.limit, other.room, other.tail);
            startsAnew();
        }

        /** All of TEXT SO FAR is PACKED from nothing. */
        void repacks() {
            startsAnew();
            int many = past.signs.size;
            for (int i = 0; i < many; i++) packsNext();
        }

        /** The first SIGN that is in TEXT SO FAR, but not PACKED yet: where it was FOUND. */
        int packsNext() {
            int sign = past.signs.at(packed);
            range.wants(sign);
            int found = descends(range);
            learns(sign, found);
            return found;
        }

        int readsNext() {
            int found = descends(range);
            int sign = chosen;
            past.signs.puts(sign);
            learns(sign, found);
            return sign;
        }

        /** Where a SIGN would be FOUND; its CHANCE and ESCAPES are in the odds then. */
        int weighs(Odds odds, int sign) {
            odds.wants(sign);
            return descends(odds);
        }

        /** From the longest CONTEXT down to none, till a SIGN is chosen: where that was. */
        private int descends(Taker taker) {
            stage.shutsNone();
            for (int j = longest(); j >= 0; j--) {
                stage.shows(contexts, past.contextAhead(packed, j));
                if (stage.total > 0) {
                    chosen = taker.chooses(stage);
                    taker.takes(stage.beginOf(chosen), stage.width(chosen), stage.total);
                    if (chosen != ESCAPE) return j;
                    stage.shutsOpen();
                }
            }
            stage.shows(contexts, NO_CONTEXT);
            chosen = taker.chooses(stage);
            taker.takes(stage.beginOf(chosen), stage.width(chosen), stage.total);
            return -1;
        }

        private void startsAnew() {
            packed = 0;
            forgotten = 0;
            contexts.empties();
            range.startsWriting();
        }

        private int longest() {
            return Math.min(past.order, packed);
        }

        private void learns(int sign, int found) {
            int most = longest();
            for (int j = Math.max(found, 0); j <= most; j++) {
                contexts.raises(past.contextAhead(packed, j), sign, past.limit);
            }
            packed++;
            if (contexts.there > past.room) forgets();
        }

        private void forgets() {
            forgotten++;
            contexts.empties();
            int first = Math.max(packed - past.tail, 0);
            for (int i = first; i < packed; i++) {
                int most = Math.min(past.order, i - first);
                for (int j = 0; j <= most; j++) {
                    contexts.raises(past.contextAhead(i, j), past.signs.at(i), past.limit);
                }
            }
        }
    }
}
