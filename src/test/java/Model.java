import java.math.BigInteger;
import java.util.ArrayDeque;
import java.util.ArrayList;
import java.util.Deque;
import java.util.HashMap;
import java.util.List;
import java.util.Map;

/**
 * The document once more, written another way: texts as Strings, CONTEXTS in a map, all of it packed anew for each
 * question. The class under test must answer as this does.
 */
final class Model {
    record State(int order, int limit, int room, int tail, String text) {
    }

    record Part(int begin, int width, int total) {
    }

    record Packing(List<Part> parts, int found) {
    }

    /** All that comes of a State. */
    static final class Derived {
        final State state;
        final Map<String, int[]> counts = new HashMap<>();
        final StringBuilder bits = new StringBuilder();
        String text = "";
        long low = 0;
        long high = 65535;
        int owed = 0;
        int forgotten = 0;

        Derived(State state) {
            this.state = state;
        }

        int[] of(String context) {
            return counts.getOrDefault(context, new int[4]);
        }

        long there() {
            return counts.values().stream().filter(c -> c[0] + c[1] + c[2] + c[3] > 0).count();
        }

        Packing packing(int sign) {
            List<Part> parts = new ArrayList<>();
            boolean[] shut = new boolean[4];
            for (int j = Math.min(state.order, text.length()); j >= 0; j--) {
                int[] c = of(text.substring(text.length() - j));
                int open = 0;
                int closed = 0;
                int sum = 0;
                int below = 0;
                for (int s = 0; s < 4; s++) {
                    if (shut[s]) {
                        closed++;
                    } else if (c[s] > 0) {
                        open++;
                        sum += c[s];
                        if (s < sign) below += c[s];
                    }
                }
                if (open == 0) continue;
                int escape = open + closed == 4 ? 0 : open;
                if (!shut[sign] && c[sign] > 0) {
                    parts.add(new Part(below, c[sign], sum + escape));
                    return new Packing(parts, j);
                }
                parts.add(new Part(sum, escape, sum + escape));
                for (int s = 0; s < 4; s++) shut[s] |= c[s] > 0;
            }
            int left = 0;
            int below = 0;
            for (int s = 0; s < 4; s++) {
                if (!shut[s]) {
                    left++;
                    if (s < sign) below++;
                }
            }
            parts.add(new Part(below, 1, left));
            return new Packing(parts, -1);
        }

        void learn(String context, int sign) {
            int[] c = counts.computeIfAbsent(context, k -> new int[4]);
            if (++c[sign] == state.limit) for (int s = 0; s < 4; s++) c[s] >>= 1;
        }

        void follow(int sign, int found) {
            for (int j = Math.max(0, found); j <= Math.min(state.order, text.length()); j++) {
                learn(text.substring(text.length() - j), sign);
            }
            text += (char) ('a' + sign);
            if (there() <= state.room) return;
            forgotten++;
            counts.clear();
            String rest = text.substring(Math.max(0, text.length() - state.tail));
            for (int i = 0; i < rest.length(); i++) {
                for (int j = 0; j <= state.order && j <= i; j++) learn(rest.substring(i - j, i), rest.charAt(i) - 'a');
            }
        }

        void emit(int bit) {
            bits.append(bit).append((bit == 0 ? "1" : "0").repeat(owed));
            owed = 0;
        }

        void write(Part p) {
            long r = high - low + 1;
            high = low + r * (p.begin + p.width) / p.total - 1;
            low = low + r * p.begin / p.total;
            while (true) {
                if (high < 32768) {
                    emit(0);
                } else if (low >= 32768) {
                    emit(1);
                    low -= 32768;
                    high -= 32768;
                } else if (low >= 16384 && high < 49152) {
                    owed++;
                    low -= 16384;
                    high -= 16384;
                } else {
                    return;
                }
                low = low * 2;
                high = high * 2 + 1;
            }
        }

        int pack(int sign) {
            Packing p = packing(sign);
            for (Part part : p.parts) write(part);
            follow(sign, p.found);
            return p.found;
        }

        String ended() {
            int first = low < 16384 ? 0 : 1;
            return bits.toString() + first + (first == 0 ? "1" : "0").repeat(owed + 1);
        }

        BigInteger[] chance(int sign) {
            BigInteger upper = BigInteger.ONE;
            BigInteger lower = BigInteger.ONE;
            for (Part p : packing(sign).parts) {
                upper = upper.multiply(BigInteger.valueOf(p.width));
                lower = lower.multiply(BigInteger.valueOf(p.total));
            }
            BigInteger common = upper.gcd(lower);
            return new BigInteger[] {upper.divide(common), lower.divide(common)};
        }
    }

    /** VALUE, with LOW and HIGH of its own, over a row of bits. */
    static final class Eye {
        final String bits;
        long low = 0;
        long high = 65535;
        long value = 0;
        int next = 0;

        Eye(String bits) {
            this.bits = bits;
            for (int i = 0; i < 16; i++) value = value * 2 + read();
        }

        Eye(Eye other) {
            bits = other.bits;
            low = other.low;
            high = other.high;
            value = other.value;
            next = other.next;
        }

        int read() {
            int bit = next < bits.length() ? bits.charAt(next) - '0' : 0;
            next++;
            return bit;
        }

        boolean sees(Part p) {
            long r = high - low + 1;
            long v = ((value - low + 1) * p.total - 1) / r;
            if (v < p.begin || v >= p.begin + p.width) return false;
            high = low + r * (p.begin + p.width) / p.total - 1;
            low = low + r * p.begin / p.total;
            while (high < 32768 || low >= 32768 || low >= 16384 && high < 49152) {
                long off = high < 32768 ? 0 : low >= 32768 ? 32768 : 16384;
                low = (low - off) * 2;
                high = (high - off) * 2 + 1;
                value = (value - off) * 2 + read();
            }
            return true;
        }
    }

    State state = new State(2, 7, 24, 4, "");
    Deque<State> done = new ArrayDeque<>();
    State[] images = new State[2];
    String letters = "";

    static Derived derive(State state) {
        Derived d = new Derived(state);
        for (char c : state.text.toCharArray()) d.pack(c - 'a');
        return d;
    }

    Derived now() {
        return derive(state);
    }

    /** Each of the four SIGNS is tried: the one all of whose PARTS hold the VALUE is the next one. */
    String unpack(String bits, int many) {
        Derived d = new Derived(new State(state.order, state.limit, state.room, state.tail, ""));
        Eye eye = new Eye(bits);
        for (int i = 0; i < many; i++) {
            Eye after = null;
            int sign = -1;
            for (int s = 0; s < 4; s++) {
                Eye trial = new Eye(eye);
                boolean all = true;
                for (Part p : d.packing(s).parts) all = all && trial.sees(p);
                if (all) {
                    if (sign >= 0) throw new IllegalStateException("two SIGNS fit");
                    sign = s;
                    after = trial;
                }
            }
            if (sign < 0) throw new IllegalStateException("no SIGN fits");
            eye = after;
            d.follow(sign, d.packing(sign).found);
        }
        return d.text;
    }

    private void does(State next) {
        done.addLast(state);
        if (done.size() > 6) done.removeFirst();
        state = next;
    }

    private State with(String text) {
        return new State(state.order, state.limit, state.room, state.tail, text);
    }

    private static boolean out(int x, int least, int most) {
        return x < least || x > most;
    }

    int type(int letter) {
        if (out(letter, 0, 255)) return -1;
        if (letters.length() == 200) return -3;
        letters += (char) letter;
        return letters.length();
    }

    int clear() {
        int had = letters.length();
        letters = "";
        return had;
    }

    int begins(int order, int limit, int room, int tail) {
        if (out(order, 0, 3) || out(limit, 2, 15) || out(room, 4, 60) || out(tail, 0, 9)) return -1;
        int had = state.text.length();
        does(new State(order, limit, room, tail, ""));
        return had;
    }

    int packs(int sign) {
        if (out(sign, 0, 3)) return -5;
        if (state.text.length() == 60) return -6;
        int found = now().packing(sign).found;
        does(with(state.text + (char) ('a' + sign)));
        return found;
    }

    int word() {
        for (int i = 0; i < letters.length(); i++) if ("abcd".indexOf(letters.charAt(i)) < 0) return -10 - i;
        if (state.text.length() + letters.length() > 60) return -3;
        does(with(state.text + letters));
        return clear();
    }

    int cuts(int n) {
        if (n < 1) return -1;
        if (n > state.text.length()) return -2;
        does(with(state.text.substring(0, state.text.length() - n)));
        return state.text.length();
    }

    int undo() {
        if (done.isEmpty()) return -2;
        state = done.removeLast();
        return done.size();
    }

    int sign(int i) {
        return out(i, 0, state.text.length() - 1) ? -1 : state.text.charAt(i) - 'a';
    }

    int count(int j, int a, int b, int c, int sign) {
        if (out(j, 0, state.order) || out(sign, 0, 3)) return -1;
        int[] all = {a, b, c};
        String context = "";
        for (int i = 0; i < 3; i++) {
            if (i < j ? out(all[i], 0, 3) : all[i] != 0) return -1;
            if (i < j) context += (char) ('a' + all[i]);
        }
        return now().of(context)[sign];
    }

    int bit(int i) {
        if (i < 0) return -1;
        StringBuilder bits = now().bits;
        return i < bits.length() ? bits.charAt(i) - '0' : -9;
    }

    int chance(int sign, int what) {
        if (out(sign, 0, 3) || out(what, 0, 1)) return -1;
        return now().chance(sign)[what].intValueExact();
    }

    int escapes(int sign, int what) {
        if (out(sign, 0, 3) || out(what, 0, 1)) return -5;
        Packing p = now().packing(sign);
        return what == 0 ? p.parts.size() - 1 : p.found;
    }

    int likeliest() {
        Derived d = now();
        int most = 0;
        for (int s = 1; s < 4; s++) {
            BigInteger[] a = d.chance(s);
            BigInteger[] b = d.chance(most);
            if (a[0].multiply(b[1]).compareTo(b[0].multiply(a[1])) > 0) most = s;
        }
        return most;
    }

    int length() {
        return now().ended().length();
    }

    int best() {
        int best = 0;
        int[] many = new int[4];
        for (int order = 0; order < 4; order++) {
            many[order] = derive(new State(order, state.limit, state.room, state.tail, state.text)).ended().length();
            if (many[order] < many[best]) best = order;
        }
        return best;
    }

    int unpacked(int i) {
        if (out(i, 0, 59)) return -1;
        for (int k = 0; k < letters.length(); k++) if ("01".indexOf(letters.charAt(k)) < 0) return -10 - k;
        return unpack(letters, i + 1).charAt(i) - 'a';
    }

    int agrees() {
        String again = unpack(now().ended(), state.text.length());
        int same = 0;
        while (same < again.length() && again.charAt(same) == state.text.charAt(same)) same++;
        return same;
    }

    int keep(int image) {
        if (out(image, 0, 1)) return -1;
        images[image] = state;
        return state.text.length();
    }

    int back(int image) {
        if (out(image, 0, 1)) return -1;
        if (images[image] == null) return -2;
        state = images[image];
        done.clear();
        return state.text.length();
    }

    int told(int what) {
        Derived d = now();
        long[] all = {state.text.length(), d.there(), d.forgotten, d.bits.length(), d.owed, d.low, d.high, state.order,
            state.limit, state.room, state.tail, letters.length(), done.size()};
        return out(what, 0, 12) ? -1 : (int) all[what];
    }
}
