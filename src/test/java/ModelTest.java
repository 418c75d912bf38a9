import java.util.Random;

/** Runs of calls drawn from fixed seeds, each answer held against PlainBook's. */
public final class ModelTest {
    private static final int RUNS = 3000;
    private static final int[] WILD = {-1, 0, 1, 7, 12, 19, 20, 31, 399, 400, 401, 1000, 1001, 100000, 100001,
        Integer.MIN_VALUE, Integer.MAX_VALUE, -2, 0x80000020, 0x7fffffec};
    private static final String[] WORDS = {"choir", "late", "ill", "business", "quorum", "proxy", "hour", "hours", "il"};
    private static final String ODD = " ;0a9z\0\u00ff\t:/`{A";

    private final Random random;
    private final StallBook book = new StallBook();
    private final PlainBook plain = new PlainBook();
    private final int[] weights = new int[25];
    private final int canons;
    private final int wildness;
    private int calls = 0;

    private ModelTest(long seed) {
        random = new Random(seed);
        canons = 1 + random.nextInt(20);
        wildness = random.nextInt(3) == 0 ? 4 : 60;
        for (int method = 0; method < weights.length; method++) {
            weights[method] = 1 + random.nextInt(10);
        }
        weights[4] = 1;
        weights[8] = random.nextInt(12);
        weights[15] = 1;
    }

    public static void main(String[] args) {
        for (int seed = 0; seed < RUNS; seed++) {
            new ModelTest(seed).run();
        }
        Check.finish("ModelTest");
    }

    private void run() {
        for (int i = 0; i < canons; i++) {
            call(1, 0, 0, 0, 0, 0);
        }
        while (calls < Calls.MOST) {
            if (random.nextInt(25) == 0) {
                wholeVote();
            } else {
                step(pick());
            }
        }
    }

    private int pick() {
        int all = 0;
        for (int weight : weights) {
            all += weight;
        }
        int left = random.nextInt(all);
        int method = 0;
        while (left >= weights[method]) {
            left -= weights[method];
            method++;
        }
        return method;
    }

    /** Most random votes fail: this one says yes often enough to make ACTS. */
    private void wholeVote() {
        String text = text();
        for (int at = 0; at < text.length(); at += 20) {
            call(14, Check.word(text, at), Check.word(text, at + 4), Check.word(text, at + 8), Check.word(text, at + 12),
                Check.word(text, at + 16));
        }
        call(15, text.length(), 0, 0, 0, 0);
        call(16, 0, 0, 0, 0, 0);
        for (int canon = 0; canon < canons; canon++) {
            if (random.nextInt(5) == 0) {
                call(18, canon, random.nextInt(canons), 0, 0, 0);
            } else if (random.nextInt(4) > 0) {
                call(17, canon, random.nextInt(3) > 0 ? 1 : 0, 0, 0, 0);
            }
        }
        if (random.nextInt(3) > 0) {
            call(19, day(), 0, 0, 0, 0);
        }
    }

    private String text() {
        StringBuilder text = new StringBuilder();
        int clauses = random.nextInt(5);
        for (int i = 0; i < clauses; i++) {
            String word = WORDS[random.nextInt(random.nextInt(8) == 0 ? WORDS.length : 7)];
            text.append(i == 0 ? "" : ";").append(blanks()).append(word).append(' ');
            text.append(word.equals("hour") ? random.nextInt(8) + " " : "").append(blanks());
            text.append(random.nextInt(word.equals("quorum") ? 103 : 10)).append(blanks());
        }
        if (random.nextInt(4) == 0) {
            text.insert(random.nextInt(text.length() + 1), ODD.charAt(random.nextInt(ODD.length())));
        }
        if (random.nextInt(8) == 0 && text.length() > 0) {
            text.deleteCharAt(random.nextInt(text.length()));
        }
        return text.toString();
    }

    private String blanks() {
        return " ".repeat(random.nextInt(4) == 0 ? random.nextInt(3) : 0);
    }

    private int day() {
        int near = plain.now() - 4 + random.nextInt(7);
        return random.nextInt(5) == 0 ? random.nextInt(400) : Math.max(near, 0);
    }

    private int or(int tame) {
        return random.nextInt(wildness) == 0 ? WILD[random.nextInt(WILD.length)] : tame;
    }

    private int below(int bound) {
        return or(random.nextInt(bound));
    }

    private void step(int method) {
        int who = below(canons);
        switch (method) {
            case 0: call(method, below(5) * 10, 0, 0, 0, 0); break;
            case 2: call(method, who, below(12), random.nextInt(3), 0, 0); break;
            case 3: call(method, who, below(12), 0, 0, 0); break;
            case 5: call(method, below(4), below(3), 0, 0, 0); break;
            case 6: call(method, who, or(day()), below(7), below(5), 0); break;
            case 7: call(method, or(day()), below(200), 0, 0, 0); break;
            case 9: call(method, who, or(day()), below(7), or(day()), 0); break;
            case 10: case 11: call(method, who, or(day()), or(day()), 0, 0); break;
            case 12: call(method, who, or(day()), 0, 0, 0); break;
            case 14: call(method, random.nextInt(), random.nextInt(), random.nextInt(), random.nextInt(), random.nextInt()); break;
            case 15: call(method, below(200), 0, 0, 0, 0); break;
            case 17: call(method, who, random.nextInt(2), 0, 0, 0); break;
            case 18: call(method, who, below(canons), 0, 0, 0); break;
            case 19: call(method, or(day()), 0, 0, 0, 0); break;
            case 20: call(method, below(10), 0, 0, 0, 0); break;
            case 21: call(method, or(day()), or(day()), below(17), 0, 0); break;
            case 22: call(method, below(4), 0, 0, 0, 0); break;
            case 23: call(method, who, below(4), 0, 0, 0); break;
            case 24: call(method, below(32), 0, 0, 0, 0); break;
            default: call(method, who, 0, 0, 0, 0);
        }
    }

    private void call(int method, int a, int b, int c, int d, int e) {
        if (calls == Calls.MOST) {
            return;
        }
        calls++;
        int got = Calls.answer(book, method, a, b, c, d, e);
        int want = plain.call(method, a, b, c, d, e);
        if (got != want) {
            Check.due("method " + method + " of " + a + ", " + b + ", " + c + ", " + d + ", " + e, got, want);
            Check.finish("ModelTest");
        }
        Check.due("", got, want);
    }
}
