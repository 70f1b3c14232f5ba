import java.util.Random;

/** Long runs of calls, ordinary and wrong ones mixed, on the program and the model side by side. */
public final class ModelTests {
    private static final int RUNS = 400;
    private static final int CALLS = 512;
    private static final int[] WILD = {Integer.MIN_VALUE, -1000001, -1, 0, 1, 64, 2147483, Integer.MAX_VALUE};

    private final Random random;
    private final Checks checks;
    private final VoiceParts x = new VoiceParts();
    private final Model m = new Model();
    private int f = 4;
    private int t = 4;
    private int k = 2;

    private ModelTests(long seed, Checks checks) {
        this.random = new Random(seed);
        this.checks = checks;
    }

    public static void main(String[] args) {
        Checks checks = new Checks();
        for (int run = 1; run <= RUNS && !checks.anyWrong(); run++) {
            ModelTests test = new ModelTests(run, checks);
            for (int call = 1; call <= CALLS && !checks.anyWrong(); call++) {
                test.callOnce("run " + run + ", call " + call + ": ");
            }
        }
        checks.end("ModelTests");
    }

    /** Mostly from least to most, at times just outside, seldom far outside. */
    private int pick(int least, int most) {
        int how = random.nextInt(100);
        if (how == 0) {
            return WILD[random.nextInt(WILD.length)];
        }
        if (how < 3) {
            return random.nextBoolean() ? least - 1 : most + 1;
        }
        return how < 8 ? (random.nextBoolean() ? least : most) : least + random.nextInt(most - least + 1);
    }

    private int pickLoud() {
        return random.nextInt(3) == 0 ? pick(0, 5) : pick(0, 99);
    }

    private int pickSound() {
        return random.nextInt(2) == 0 ? pick(-2, 2) : pick(-1000, 1000);
    }

    private void callOnce(String where) {
        int which = random.nextInt(120);
        if (which < 1) {
            layBoard(where);
        } else if (which < 60) {
            changeOnce(where, which);
        } else if (which < 100) {
            askOnce(where, which);
        } else {
            askRowsOnce(where, which);
        }
    }

    private void layBoard(String where) {
        int a = pick(1, 6);
        int b = pick(1, 8);
        int c = pick(1, 3);
        checks.due(where + "board(" + a + ", " + b + ", " + c + ")", x.board(a, b, c), m.board(a, b, c));
        f = m.count(0);
        t = m.count(1);
        k = m.count(2);
    }

    private void changeOnce(String where, int which) {
        int voice = pick(0, k - 1);
        int tone = pick(0, f - 1);
        int time = pick(0, t - 1);
        int of = pick(0, 1);
        int i = pick(0, (of == 0 ? f : t) - 1);
        int v = pickLoud();
        if (which < 25) {
            checks.due(where + "set(" + tone + ", " + time + ", " + v + ")", x.set(tone, time, v), m.set(tone, time, v));
        } else if (which < 40) {
            int n = pick(0, 20);
            checks.due(where + "begin(" + voice + ", " + of + ", " + i + ", " + n + ")",
                x.begin(voice, of, i, n), m.begin(voice, of, i, n));
        } else if (which < 42) {
            checks.due(where + "bar(" + voice + ", " + of + ", " + i + ")", x.bar(voice, of, i), m.bar(voice, of, i));
        } else if (which < 45) {
            int kind = pick(0, 2);
            checks.due(where + "judge(" + kind + ")", x.judge(kind), m.judge(kind));
        } else if (which < 47) {
            int n = random.nextInt(4) == 0 ? pick(1, 10) : pick(1, 2);
            checks.due(where + "rounds(" + n + ")", x.rounds(n), m.rounds(n));
        } else {
            checks.due(where + "truth(" + voice + ", " + tone + ", " + time + ", " + v + ")",
                x.truth(voice, tone, time, v), m.truth(voice, tone, time, v));
        }
    }

    private void askOnce(String where, int which) {
        int voice = pick(0, k - 1);
        int tone = pick(0, f - 1);
        int time = pick(0, t - 1);
        int of = pick(0, 1);
        int i = pick(0, (of == 0 ? f : t) - 1);
        int what = pick(0, 2);
        int p = pick(1, t);
        if (which < 66) {
            checks.due(where + "at(" + tone + ", " + time + ", " + what + ")", x.at(tone, time, what), m.at(tone, time, what));
        } else if (which < 73) {
            checks.due(where + "number(" + voice + ", " + of + ", " + i + ")", x.number(voice, of, i), m.number(voice, of, i));
        } else if (which < 81) {
            checks.due(where + "share(" + voice + ", " + tone + ", " + time + ")", x.share(voice, tone, time), m.share(voice, tone, time));
        } else if (which < 87) {
            checks.due(where + "background(" + p + ", " + tone + ", " + time + ")",
                x.background(p, tone, time), m.background(p, tone, time));
        } else if (which < 89) {
            checks.due(where + "period()", x.period(), m.period());
        } else if (which < 92) {
            checks.due(where + "miss()", x.miss(), m.miss());
        } else if (which < 95) {
            int order = pick(0, k == 3 ? 5 : k - 1);
            checks.due(where + "apart(" + order + ")", x.apart(order), m.apart(order));
        } else if (which < 97) {
            checks.due(where + "order()", x.order(), m.order());
        } else {
            int d = random.nextBoolean() ? pick(0, 2000) : pick(5, 15);
            checks.due(where + "cost(" + what + ", " + d + ")", x.cost(what, d), m.cost(what, d));
            checks.due(where + "trace()", x.trace(), m.trace());
        }
    }

    private void askRowsOnce(String where, int which) {
        int row = pick(0, 1);
        if (which < 107) {
            int v = pickSound();
            checks.due(where + "hear(" + row + ", " + v + ")", x.hear(row, v), m.hear(row, v));
        } else if (which < 108) {
            checks.due(where + "clear(" + row + ")", x.clear(row), m.clear(row));
        } else if (which < 112) {
            checks.due(where + "later()", x.later(), m.later());
        } else if (which < 116) {
            int n = pick(0, 7);
            int what = pick(0, 1);
            checks.due(where + "turned(" + n + ", " + what + ")", x.turned(n, what), m.turned(n, what));
        } else {
            int what = pick(0, 7);
            checks.due(where + "count(" + what + ")", x.count(what), m.count(what));
        }
    }
}
