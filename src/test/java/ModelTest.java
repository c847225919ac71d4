import java.util.ArrayList;
import java.util.Collections;
import java.util.List;
import java.util.Random;

/** Random runs of up to 512 calls, each call asked of the class and of the Model; the seeds are fixed. */
public final class ModelTest {
    private static final int[] ODD = {-1, 4, 5, 60, 61, 200, 256, 1000, -10, Integer.MAX_VALUE, Integer.MIN_VALUE};

    private record Question(Run.Call call, int want) {
    }

    private final Random random;
    private final LongestPast x = new LongestPast();
    private final Model m = new Model();
    private final int taste;

    private ModelTest(long seed) {
        random = new Random(seed);
        taste = random.nextInt(4);
    }

    public static void main(String[] args) {
        int runs = args.length > 0 ? Integer.parseInt(args[0]) : 400;
        int first = args.length > 1 ? Integer.parseInt(args[1]) : 0;
        for (int run = first; run < first + runs; run++) new ModelTest(run).run("run " + run);
        Due.ends("ModelTest");
    }

    /** Short runs and long ones; what is left of the 512 calls then asks about all that is so. */
    private void run(String name) {
        int steps = 100 + random.nextInt(360);
        int call = 0;
        while (call < steps) call += step(name + ", call " + call);
        everything(name + ", at its end", Run.MOST_CALLS - call);
    }

    private int num(int most) {
        return random.nextInt(25) == 0 ? ODD[random.nextInt(ODD.length)] : random.nextInt(most + 1);
    }

    /** By taste: any SIGN, few SIGNS, a short row again and again, or mostly the same one. */
    private int aSign() {
        switch (taste) {
            case 0: return random.nextInt(4);
            case 1: return random.nextInt(2) * 2;
            case 2: return random.nextInt(8) == 0 ? random.nextInt(4) : "abcabd".charAt(m.state.text().length() % 6) - 'a';
            default: return random.nextInt(6) == 0 ? random.nextInt(4) : 3;
        }
    }

    private int step(String at) {
        int a = num(3);
        int b = num(1);
        switch (random.nextInt(26)) {
            case 0: return types(at, "abcd", random.nextInt(12));
            case 1: return types(at, "01", random.nextInt(40));
            case 2: {
                int letter = num(255);
                Due.due(at + " type", x.type(letter), m.type(letter));
                return 1;
            }
            case 3: Due.due(at + " clear", x.clear(), m.clear()); return 1;
            case 4: return begins(at);
            case 5: case 6: case 7: case 8: case 9: {
                int s = random.nextInt(25) == 0 ? a : aSign();
                Due.due(at + " packs", x.packs(s), m.packs(s));
                return 1;
            }
            case 10: case 11: Due.due(at + " word", x.word(), m.word()); return 1;
            case 12: {
                int n = num(random.nextInt(3) == 0 ? 70 : 3);
                Due.due(at + " cuts", x.cuts(n), m.cuts(n));
                return 1;
            }
            case 13: Due.due(at + " undo", x.undo(), m.undo()); return 1;
            case 14: {
                int i = num(65);
                Due.due(at + " sign", x.sign(i), m.sign(i));
                return 1;
            }
            case 15: return count(at);
            case 16: {
                int i = num(130);
                Due.due(at + " bit", x.bit(i), m.bit(i));
                return 1;
            }
            case 17: Due.due(at + " chance", x.chance(a, b), m.chance(a, b)); return 1;
            case 18: Due.due(at + " escapes", x.escapes(a, b), m.escapes(a, b)); return 1;
            case 19: Due.due(at + " likeliest", x.likeliest(), m.likeliest()); return 1;
            case 20: Due.due(at + " length", x.length(), m.length()); return 1;
            case 21: Due.due(at + " best", x.best(), m.best()); return 1;
            case 22: {
                int i = num(59);
                Due.due(at + " unpacked", x.unpacked(i), m.unpacked(i));
                return 1;
            }
            case 23: Due.due(at + " agrees", x.agrees(), m.agrees()); return 1;
            case 24: {
                if (random.nextBoolean()) Due.due(at + " keep", x.keep(b), m.keep(b));
                else if (random.nextInt(3) == 0) Due.due(at + " back", x.back(b), m.back(b));
                return 1;
            }
            default: {
                int what = num(13);
                Due.due(at + " told", x.told(what), m.told(what));
                return 1;
            }
        }
    }

    private int types(String at, String of, int many) {
        for (int i = 0; i < many; i++) {
            int letter = of.length() == 4 ? 'a' + aSign() : of.charAt(random.nextInt(of.length()));
            Due.due(at + " type", x.type(letter), m.type(letter));
        }
        return many + 1;
    }

    private int begins(String at) {
        if (random.nextInt(4) != 0) return 0;
        int order = num(3);
        int limit = random.nextInt(25) == 0 ? num(1) : 2 + random.nextInt(random.nextBoolean() ? 3 : 14);
        int room = random.nextInt(25) == 0 ? num(3) : 4 + random.nextInt(random.nextBoolean() ? 6 : 57);
        int tail = num(9);
        Due.due(at + " begins", x.begins(order, limit, room, tail), m.begins(order, limit, room, tail));
        return 1;
    }

    private int count(String at) {
        int j = num(3);
        int a = j > 0 ? num(3) : num(0);
        int b = j > 1 ? num(3) : num(0);
        int c = j > 2 ? num(3) : num(0);
        int s = num(3);
        Due.due(at + " count", x.count(j, a, b, c, s), m.count(j, a, b, c, s));
        return 1;
    }

    private void everything(String at, int left) {
        Model.Derived d = m.now();
        List<Question> questions = new ArrayList<>();
        for (int i = 0; i <= 12; i++) questions.add(new Question(new Run.Call("told", i), m.told(i)));
        for (int i = 0; i < d.text.length(); i++) {
            questions.add(new Question(new Run.Call("sign", i), d.text.charAt(i) - 'a'));
        }
        for (int i = 0; i < d.bits.length(); i++) {
            questions.add(new Question(new Run.Call("bit", i), d.bits.charAt(i) - '0'));
        }
        for (int j = 0; j <= m.state.order(); j++) counts(questions, d, j);
        Collections.shuffle(questions, random);
        for (Question q : questions.subList(0, Math.min(left, questions.size()))) {
            Due.due(at + " " + q.call, q.call.on(x), q.want);
        }
    }

    private static void counts(List<Question> questions, Model.Derived d, int j) {
        for (int code = 0; code < 1 << 2 * j; code++) {
            String context = "";
            for (int i = j - 1; i >= 0; i--) context += (char) ('a' + (code >> 2 * i & 3));
            int a = j > 0 ? context.charAt(0) - 'a' : 0;
            int b = j > 1 ? context.charAt(1) - 'a' : 0;
            int c = j > 2 ? context.charAt(2) - 'a' : 0;
            for (int s = 0; s < 4; s++) questions.add(new Question(new Run.Call("count", j, a, b, c, s), d.of(context)[s]));
        }
    }
}
