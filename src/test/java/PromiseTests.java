/** One method a promise, with answers worked out by hand from the document. */
public final class PromiseTests {
    private static final int BAD = -1, STATE = -2, FULL = -3, NONE = -9, BAD_TURNED = -1000000;
    private static final int LOW = Integer.MIN_VALUE, HIGH = Integer.MAX_VALUE;
    private static final Checks CHECKS = new Checks();

    public static void main(String[] args) {
        promise1NewObject();
        promise2Board();
        promise2BoardKeepsTheRest();
        promise3Set();
        promise4At();
        promise5Number();
        promise6Begin();
        promise7Bar();
        promise8Judge();
        promise9Cost();
        promise10Miss();
        promise11Rounds();
        promise11RoundsOfLikeOnes();
        promise11RoundsAtTheEdges();
        promise12Share();
        promise13Background();
        promise14Period();
        promise15Hear();
        promise16Clear();
        promise17Later();
        promise18Turned();
        promise19Truth();
        promise20Apart();
        promise21Order();
        promise22Count();
        promise23Trace();
        CHECKS.end("PromiseTests");
    }

    private static void due(String what, long got, long want) {
        CHECKS.due(what, got, want);
    }

    /** A board whose numbers stand here tone by tone. */
    private static VoiceParts boardOf(int f, int t, int k, int... numbers) {
        VoiceParts x = new VoiceParts();
        due("boardOf: board", x.board(f, t, k), f * t);
        for (int i = 0; i < numbers.length; i++) {
            due("boardOf: set", x.set(i / t, i % t, numbers[i]), 0);
        }
        return x;
    }

    private static void hearAll(VoiceParts x, int row, int... sounds) {
        for (int i = 0; i < sounds.length; i++) {
            due("hearAll", x.hear(row, sounds[i]), i + 1);
        }
    }

    private static void promise1NewObject() {
        due("1 BAD", VoiceParts.BAD, BAD);
        due("1 STATE", VoiceParts.STATE, STATE);
        due("1 FULL", VoiceParts.FULL, FULL);
        due("1 NONE", VoiceParts.NONE, NONE);
        VoiceParts x = new VoiceParts();
        int[] counts = {4, 4, 2, 0, 0, 0, 0, 0};
        for (int what = 0; what < counts.length; what++) {
            due("1 count " + what, x.count(what), counts[what]);
        }
        allAsLaid(x, 4, 4, 2);
        due("1 trace", x.trace(), 0);
        due("1 miss", x.miss(), 32);
        due("1 later", x.later(), NONE);
        for (int k = 0; k < 8; k++) {
            due("1 turned", x.turned(k, 0), 0);
            due("1 back", x.turned(k, 1), 0);
        }
        VoiceParts y = new VoiceParts();
        y.set(0, 0, 5);
        y.begin(0, 0, 0, 5);
        y.hear(0, 5);
        y.truth(0, 0, 0, 5);
        y.cost(2, 5);
        allAsLaid(x, 4, 4, 2);
        due("1 another's row", x.count(5), 0);
        due("1 another's trace", x.trace(), 0);
    }

    private static void allAsLaid(VoiceParts x, int f, int t, int k) {
        for (int tone = 0; tone < f; tone++) {
            for (int time = 0; time < t; time++) {
                due("laid: board", x.at(tone, time, 0), 0);
                due("laid: sum", x.at(tone, time, 1), k);
                for (int voice = 0; voice < k; voice++) {
                    due("laid: truth", x.truth(voice, tone, time, 0), 0);
                }
            }
        }
        for (int voice = 0; voice < k; voice++) {
            for (int i = 0; i < f; i++) {
                due("laid: tone number", x.number(voice, 0, i), 1);
            }
            for (int i = 0; i < t; i++) {
                due("laid: time number", x.number(voice, 1, i), 1);
            }
        }
        due("laid: barred", x.count(4), 0);
    }

    private static void promise2Board() {
        VoiceParts x = new VoiceParts();
        due("2 least", x.board(1, 1, 1), 1);
        allAsLaid(x, 1, 1, 1);
        due("2 greatest", x.board(6, 8, 3), 48);
        allAsLaid(x, 6, 8, 3);
        due("2 between", x.board(5, 7, 2), 35);
        due("2 F", x.count(0), 5);
        due("2 T", x.count(1), 7);
        due("2 K", x.count(2), 2);
        x.set(4, 6, 9);
        x.begin(1, 1, 6, 9);
        x.truth(1, 4, 6, 9);
        int[][] wrongs = {{0, 7, 2}, {7, 7, 2}, {5, 0, 2}, {5, 9, 2}, {5, 7, 0}, {5, 7, 4}, {-1, 7, 2},
            {LOW, 7, 2}, {HIGH, 7, 2}, {5, LOW, 2}, {5, HIGH, 2}, {5, 7, LOW}, {5, 7, HIGH}};
        for (int[] w : wrongs) {
            due("2 wrong", x.board(w[0], w[1], w[2]), BAD);
        }
        due("2 F stays", x.count(0), 5);
        due("2 T stays", x.count(1), 7);
        due("2 K stays", x.count(2), 2);
        due("2 board stays", x.at(4, 6, 0), 9);
        due("2 number stays", x.number(1, 1, 6), 9);
        due("2 truth stays", x.truth(1, 4, 6, 9), 9);
        due("2 same size anew", x.board(5, 7, 2), 35);
        allAsLaid(x, 5, 7, 2);
    }

    private static void promise2BoardKeepsTheRest() {
        VoiceParts x = new VoiceParts();
        x.board(6, 8, 3);
        x.set(5, 7, 50);
        x.begin(2, 0, 5, 7);
        x.bar(2, 1, 7);
        x.truth(2, 5, 7, 60);
        x.judge(1);
        x.rounds(2);
        x.hear(0, 4);
        x.hear(1, 5);
        x.hear(1, 6);
        x.cost(1, 3);
        due("2 smaller", x.board(1, 1, 1), 1);
        due("2 greater again", x.board(6, 8, 3), 48);
        allAsLaid(x, 6, 8, 3);
        due("2 no longer barred", x.begin(2, 1, 7, 3), 1);
        due("2 judge stays", x.count(3), 1);
        due("2 row 0 stays", x.count(5), 1);
        due("2 row 1 stays", x.count(6), 2);
        due("2 rounds stay", x.count(7), 2);
        due("2 trace stays", x.trace(), 11);
    }

    private static void promise3Set() {
        VoiceParts x = boardOf(2, 3, 1);
        due("3 first", x.set(1, 2, 99), 0);
        due("3 again", x.set(1, 2, 0), 99);
        due("3 back", x.set(1, 2, 42), 0);
        due("3 edge", x.set(0, 0, 7), 0);
        int[][] wrongs = {{-1, 0, 1}, {2, 0, 1}, {0, -1, 1}, {0, 3, 1}, {0, 0, -1}, {0, 0, 100},
            {LOW, 0, 1}, {HIGH, 0, 1}, {0, LOW, 1}, {0, HIGH, 1}, {0, 0, LOW}, {0, 0, HIGH}};
        for (int[] w : wrongs) {
            due("3 wrong", x.set(w[0], w[1], w[2]), BAD);
        }
        int[] all = {7, 0, 0, 0, 0, 42};
        for (int i = 0; i < all.length; i++) {
            due("3 board", x.at(i / 3, i % 3, 0), all[i]);
        }
    }

    private static void promise4At() {
        VoiceParts x = boardOf(2, 3, 2, 9, 9, 1, 30, 20, 10);
        x.begin(0, 0, 1, 3);
        x.begin(0, 1, 2, 5);
        x.begin(1, 0, 1, 2);
        x.begin(1, 1, 2, 20);
        due("4 board", x.at(1, 2, 0), 10);
        due("4 sum", x.at(1, 2, 1), 55);
        due("4 sum elsewhere", x.at(0, 0, 1), 2);
        due("4 sum by tone", x.at(1, 0, 1), 5);
        due("4 sum by time", x.at(0, 2, 1), 25);
        // p = 1: 8 + 20 + 2, p = 2: 8 + 20 + 4, p = 3: 0 + 6.
        due("4 best period", x.period(), 3);
        due("4 background", x.at(1, 2, 2), 10);
        x.set(1, 0, 11);
        x.set(1, 1, 10);
        x.set(0, 2, 9);
        due("4 best period now", x.period(), 1);
        due("4 background now", x.at(1, 0, 2), 10);
        int[][] wrongs = {{-1, 0, 0}, {2, 0, 0}, {0, -1, 0}, {0, 3, 0}, {0, 0, -1}, {0, 0, 3},
            {LOW, 0, 1}, {HIGH, 0, 1}, {0, LOW, 2}, {0, HIGH, 2}, {0, 0, LOW}, {0, 0, HIGH}};
        for (int[] w : wrongs) {
            due("4 wrong", x.at(w[0], w[1], w[2]), BAD);
        }
    }

    private static void promise5Number() {
        VoiceParts x = boardOf(2, 3, 3);
        int v = 0;
        for (int voice = 0; voice < 3; voice++) {
            for (int i = 0; i < 5; i++) {
                due("5 begin", x.begin(voice, i / 2 > 0 ? 1 : 0, i < 2 ? i : i - 2, v++), 1);
            }
        }
        v = 0;
        for (int voice = 0; voice < 3; voice++) {
            for (int i = 0; i < 5; i++) {
                due("5 number", x.number(voice, i < 2 ? 0 : 1, i < 2 ? i : i - 2), v++);
            }
        }
        int[][] wrongs = {{-1, 0, 0}, {3, 0, 0}, {0, -1, 0}, {0, 2, 0}, {0, 0, -1}, {0, 0, 2}, {0, 1, 3}, {0, 1, -1},
            {LOW, 0, 0}, {HIGH, 0, 0}, {0, LOW, 0}, {0, HIGH, 0}, {0, 0, LOW}, {0, 1, HIGH}};
        for (int[] w : wrongs) {
            due("5 wrong", x.number(w[0], w[1], w[2]), BAD);
        }
    }

    private static void promise6Begin() {
        VoiceParts x = boardOf(2, 3, 2);
        due("6 first", x.begin(1, 1, 2, 20), 1);
        due("6 again", x.begin(1, 1, 2, 0), 20);
        due("6 once more", x.begin(1, 1, 2, 13), 0);
        int[][] wrongs = {{-1, 0, 0, 1}, {2, 0, 0, 1}, {0, -1, 0, 1}, {0, 2, 0, 1}, {0, 0, -1, 1}, {0, 0, 2, 1},
            {0, 1, 3, 1}, {1, 1, 2, -1}, {1, 1, 2, 21}, {1, 1, 2, LOW}, {1, 1, 2, HIGH}, {LOW, 0, 0, 1},
            {0, HIGH, 0, 1}, {0, 0, HIGH, 1}};
        for (int[] w : wrongs) {
            due("6 wrong", x.begin(w[0], w[1], w[2], w[3]), BAD);
        }
        due("6 stays", x.number(1, 1, 2), 13);
        due("6 bar", x.bar(1, 1, 2), 13);
        due("6 barred", x.begin(1, 1, 2, 5), STATE);
        due("6 barred, 0 too", x.begin(1, 1, 2, 0), STATE);
        due("6 bad ahead of state", x.begin(1, 1, 2, 21), BAD);
        due("6 stays 0", x.number(1, 1, 2), 0);
        due("6 the next one is free", x.begin(1, 1, 1, 5), 1);
        due("6 the other voice is free", x.begin(0, 1, 2, 5), 1);
    }

    private static void promise7Bar() {
        VoiceParts x = boardOf(6, 8, 3);
        x.begin(2, 1, 7, 17);
        due("7 what it was", x.bar(2, 1, 7), 17);
        due("7 is 0", x.number(2, 1, 7), 0);
        due("7 already", x.bar(2, 1, 7), STATE);
        due("7 barred", x.count(4), 1);
        due("7 sum without it", x.at(0, 7, 1), 2);
        int[][] wrongs = {{-1, 0, 0}, {3, 0, 0}, {0, -1, 0}, {0, 2, 0}, {0, 0, -1}, {0, 0, 6}, {0, 1, 8},
            {LOW, 0, 0}, {0, HIGH, 0}, {0, 0, HIGH}};
        for (int[] w : wrongs) {
            due("7 wrong", x.bar(w[0], w[1], w[2]), BAD);
        }
        due("7 barred still", x.count(4), 1);
        int all = 1;
        for (int voice = 0; voice < 3; voice++) {
            for (int i = 0; i < 14; i++) {
                boolean isTone = i < 6;
                if (voice < 2 || i < 13) {
                    due("7 bar all", x.bar(voice, isTone ? 0 : 1, isTone ? i : i - 6), 1);
                    due("7 barred now", x.count(4), ++all);
                }
            }
        }
        due("7 all are barred", x.count(4), 42);
        due("7 nothing to move", x.rounds(1), 0);
    }

    private static void promise8Judge() {
        VoiceParts x = new VoiceParts();
        due("8 plain at first", x.judge(2), 0);
        due("8 bent", x.judge(1), 2);
        due("8 square", x.judge(1), 1);
        due("8 to plain", x.judge(0), 1);
        due("8 to square", x.judge(1), 0);
        for (int wrong : new int[] {-1, 3, LOW, HIGH}) {
            due("8 wrong", x.judge(wrong), BAD);
        }
        due("8 stays", x.count(3), 1);
        due("8 no trace", x.trace(), 0);
    }

    private static void promise9Cost() {
        VoiceParts x = new VoiceParts();
        int[][] costs = {{0, 0, 0}, {0, 1, 1}, {0, 2000, 2000}, {1, 0, 0}, {1, 9, 81}, {1, 2000, 4000000},
            {2, 0, 0}, {2, 9, 81}, {2, 10, 100}, {2, 11, 102}, {2, 12, 104}, {2, 13, 106}, {2, 17, 118},
            {2, 100, 1090}, {2, 2000, 400090}};
        for (int[] c : costs) {
            due("9 cost " + c[0] + " of " + c[1], x.cost(c[0], c[1]), c[2]);
        }
        int[][] wrongs = {{-1, 1}, {3, 1}, {0, -1}, {0, 2001}, {1, -1}, {1, 2001}, {2, -1}, {2, 2001},
            {LOW, 1}, {HIGH, 1}, {1, LOW}, {1, HIGH}};
        for (int[] w : wrongs) {
            due("9 wrong", x.cost(w[0], w[1]), BAD);
        }
        due("9 the judge is another thing", x.count(3), 0);
    }

    private static void promise10Miss() {
        VoiceParts x = boardOf(1, 2, 1, 5, 20);
        due("10 plain", x.miss(), 23);
        x.judge(1);
        due("10 square", x.miss(), 377);
        x.judge(2);
        due("10 bent", x.miss(), 142);
        x = boardOf(2, 1, 2, 3, 0);
        x.begin(0, 0, 1, 4);
        due("10 under and over", x.miss(), 6);
        x = boardOf(6, 8, 3);
        for (int voice = 0; voice < 3; voice++) {
            for (int i = 0; i < 14; i++) {
                x.begin(voice, i < 6 ? 0 : 1, i < 6 ? i : i - 6, 20);
            }
        }
        due("10 greatest plain", x.miss(), 57600);
        x.judge(1);
        due("10 greatest square", x.miss(), 69120000);
        x.judge(2);
        due("10 greatest bent", x.miss(), 48 * 144090);
    }

    private static void promise11Rounds() {
        VoiceParts x = boardOf(1, 1, 1, 6);
        due("11 one", x.rounds(1), 2);
        due("11 tone", x.number(0, 0, 0), 2);
        due("11 time", x.number(0, 1, 0), 2);
        due("11 two more", x.rounds(2), 0);
        due("11 tone then", x.number(0, 0, 0), 3);
        due("11 time then", x.number(0, 1, 0), 2);
        due("11 ever", x.count(7), 3);
        for (int wrong : new int[] {0, 11, -1, LOW, HIGH}) {
            due("11 wrong", x.rounds(wrong), BAD);
        }
        due("11 ever still", x.count(7), 3);
        due("11 most", x.rounds(10), 0);
        due("11 ever now", x.count(7), 13);
        // Voice 0's tone, then its time, take all that is missing before voice 1 comes.
        x = boardOf(1, 1, 2, 3);
        due("11 voice by voice", x.rounds(1), 0);
        due("11 voice 0 moved", x.number(0, 0, 0), 2);
        due("11 its time did not", x.number(0, 1, 0), 1);
        due("11 voice 1 did not", x.number(1, 0, 0), 1);
    }

    private static void promise11RoundsOfLikeOnes() {
        // By BENT both one less and one more miss 167, itself 208: the lesser one.
        VoiceParts x = boardOf(1, 2, 1, 62, 38);
        x.judge(2);
        x.begin(0, 0, 0, 10);
        x.begin(0, 1, 0, 5);
        x.begin(0, 1, 1, 5);
        due("11 miss", x.miss(), 208);
        due("11 lesser one", x.rounds(1), 68);
        due("11 lesser tone", x.number(0, 0, 0), 9);
        due("11 time 0 up", x.number(0, 1, 0), 6);
        due("11 time 1 down", x.number(0, 1, 1), 4);
        // By PLAIN all three miss alike: itself.
        x = boardOf(1, 2, 1, 9, 1);
        x.begin(0, 0, 0, 5);
        due("11 like ones, miss", x.miss(), 8);
        x.bar(0, 1, 0);
        x.bar(0, 1, 1);
        due("11 all alike", x.rounds(1), 10);
        due("11 itself", x.number(0, 0, 0), 5);
    }

    private static void promise11RoundsAtTheEdges() {
        VoiceParts x = boardOf(1, 1, 1, 99);
        x.begin(0, 0, 0, 20);
        x.begin(0, 1, 0, 4);
        due("11 not over 20", x.rounds(1), 1);
        due("11 stays 20", x.number(0, 0, 0), 20);
        due("11 time is 5", x.number(0, 1, 0), 5);
        x = boardOf(1, 1, 2, 0);
        due("11 down to 0", x.rounds(10), 0);
        due("11 tone 0", x.number(0, 0, 0), 0);
        due("11 time as it was", x.number(0, 1, 0), 1);
        due("11 tone 0 of voice 1", x.number(1, 0, 0), 0);
        x = boardOf(1, 2, 2, 50, 50);
        x.bar(0, 0, 0);
        // Voice 1 alone gets to 7 times 7 at both times, and no nearer.
        due("11 with a barred one", x.rounds(10), 2);
        due("11 barred stays", x.number(0, 0, 0), 0);
        due("11 times of the barred stay", x.number(0, 1, 0), 1);
        x = boardOf(1, 1, 1, 50);
        x.bar(0, 1, 0);
        due("11 a barred time", x.rounds(10), 50);
        due("11 barred time stays", x.number(0, 1, 0), 0);
    }

    private static void promise12Share() {
        VoiceParts x = boardOf(2, 2, 3, 10, 2, 1, 99);
        x.begin(0, 0, 0, 3);
        x.begin(1, 0, 0, 4);
        x.begin(2, 0, 0, 2);
        sharesAre(x, 0, 0, 3, 5, 2);
        sharesAre(x, 0, 1, 1, 1, 0);
        sharesAre(x, 1, 0, 1, 0, 0);
        sharesAre(x, 1, 1, 33, 33, 33);
        x.begin(0, 1, 1, 0);
        sharesAre(x, 1, 1, 0, 50, 49);
        x.begin(1, 1, 1, 0);
        sharesAre(x, 1, 1, 0, 0, 99);
        x.begin(2, 0, 1, 0);
        sharesAre(x, 1, 1, 99, 0, 0);
        // Of 10 by 1, 1, 5: 1.43, 1.43, 7.14.
        x.board(1, 1, 3);
        x.set(0, 0, 10);
        x.begin(2, 0, 0, 5);
        sharesAre(x, 0, 0, 2, 1, 7);
        int[][] wrongs = {{-1, 0, 0}, {3, 0, 0}, {0, -1, 0}, {0, 1, 0}, {0, 0, -1}, {0, 0, 1},
            {LOW, 0, 0}, {HIGH, 0, 0}, {0, HIGH, 0}, {0, 0, LOW}};
        for (int[] w : wrongs) {
            due("12 wrong", x.share(w[0], w[1], w[2]), BAD);
        }
    }

    private static void sharesAre(VoiceParts x, int tone, int time, int... shares) {
        for (int voice = 0; voice < shares.length; voice++) {
            due("12 share of " + voice + " at " + tone + ", " + time, x.share(voice, tone, time), shares[voice]);
        }
    }

    private static void promise13Background() {
        VoiceParts x = boardOf(2, 5, 1, 8, 6, 4, 2, 9, 1, 1, 7, 7, 7);
        int[] byOne = {6, 6, 6, 6, 6};
        int[] byTwo = {8, 2, 8, 2, 8};
        int[] byThree = {2, 6, 4, 2, 6};
        int[] byFour = {8, 6, 4, 2, 8};
        int[] byFive = {8, 6, 4, 2, 9};
        int[][] all = {byOne, byTwo, byThree, byFour, byFive};
        for (int p = 1; p <= 5; p++) {
            for (int time = 0; time < 5; time++) {
                due("13 by " + p + " at " + time, x.background(p, 0, time), all[p - 1][time]);
            }
        }
        due("13 like ones", x.background(1, 1, 0), 7);
        due("13 like ones, lower", x.background(3, 1, 1), 1);
        int[][] wrongs = {{0, 0, 0}, {6, 0, 0}, {-1, 0, 0}, {1, -1, 0}, {1, 2, 0}, {1, 0, -1}, {1, 0, 5},
            {LOW, 0, 0}, {HIGH, 0, 0}, {1, HIGH, 0}, {1, 0, LOW}};
        for (int[] w : wrongs) {
            due("13 wrong", x.background(w[0], w[1], w[2]), BAD);
        }
    }

    private static void promise14Period() {
        due("14 all 0", boardOf(6, 8, 1).period(), 1);
        due("14 one time", boardOf(1, 1, 1, 99).period(), 1);
        due("14 again and again", boardOf(2, 6, 1, 1, 9, 1, 9, 1, 9, 4, 4, 4, 4, 4, 4).period(), 2);
        // p = 1 and p = 2 both cost 2: the least.
        due("14 of several the least", boardOf(1, 2, 1, 7, 8).period(), 1);
        due("14 a little more", boardOf(1, 2, 1, 7, 9).period(), 2);
        // Each tone pays: p = 1 costs 2 + 2, p = 2 costs 4.
        due("14 for each tone", boardOf(2, 2, 1, 7, 9, 5, 5).period(), 1);
        due("14 for each tone, more", boardOf(2, 2, 1, 7, 10, 5, 5).period(), 2);
    }

    private static void promise15Hear() {
        VoiceParts x = new VoiceParts();
        due("15 lowest", x.hear(0, -1000), 1);
        due("15 highest", x.hear(0, 1000), 2);
        due("15 the other row", x.hear(1, 0), 1);
        for (int n = 3; n <= 8; n++) {
            due("15 more", x.hear(0, n), n);
        }
        due("15 full", x.hear(0, 5), FULL);
        due("15 bad ahead of full", x.hear(0, 1001), BAD);
        due("15 still 8", x.count(5), 8);
        due("15 row 1 is its own", x.hear(1, 7), 2);
        int[][] wrongs = {{-1, 0}, {2, 0}, {1, -1001}, {1, 1001}, {LOW, 0}, {HIGH, 0}, {1, LOW}, {1, HIGH}};
        for (int[] w : wrongs) {
            due("15 wrong", x.hear(w[0], w[1]), BAD);
        }
        due("15 still 2", x.count(6), 2);
        due("15 kept", x.turned(0, 1), -1000);
        due("15 kept, last", x.turned(7, 1), 8);
    }

    private static void promise16Clear() {
        VoiceParts x = new VoiceParts();
        due("16 empty", x.clear(0), 0);
        hearAll(x, 0, 1, 2, 3);
        hearAll(x, 1, 1, 2, 3, 4, 5, 6, 7, 8);
        due("16 row 0", x.clear(0), 3);
        due("16 row 1 stays", x.count(6), 8);
        for (int wrong : new int[] {-1, 2, LOW, HIGH}) {
            due("16 wrong", x.clear(wrong), BAD);
        }
        due("16 row 1", x.clear(1), 8);
        due("16 again", x.clear(1), 0);
        due("16 anew", x.hear(0, 9), 1);
        due("16 nothing old", x.turned(0, 0), 9);
        due("16 nothing old behind", x.turned(1, 1), 0);
    }

    private static int laterOf(int[] row0, int[] row1) {
        VoiceParts x = new VoiceParts();
        hearAll(x, 0, row0);
        hearAll(x, 1, row1);
        return x.later();
    }

    private static void promise17Later() {
        due("17 both empty", laterOf(new int[] {}, new int[] {}), NONE);
        due("17 row 0 empty", laterOf(new int[] {}, new int[] {1}), NONE);
        due("17 row 1 empty", laterOf(new int[] {1}, new int[] {}), NONE);
        due("17 at once", laterOf(new int[] {1, 2}, new int[] {1, 2}), 0);
        due("17 two later", laterOf(new int[] {5, 3}, new int[] {0, 0, 5, 3}), 2);
        due("17 two sooner", laterOf(new int[] {0, 0, 5, 3}, new int[] {5, 3}), -2);
        int[] last = {0, 0, 0, 0, 0, 0, 0, 1};
        due("17 seven later", laterOf(new int[] {1}, last), 7);
        due("17 seven sooner", laterOf(last, new int[] {1}), -7);
        due("17 all alike", laterOf(new int[] {0}, new int[] {5}), 0);
        due("17 of two the lesser", laterOf(new int[] {1, 0, 1}, new int[] {0, 1}), -1);
        due("17 the nearest", laterOf(new int[] {0, 0, 1}, new int[] {1, 0, 0, 1}), 1);
        due("17 where both are, none is 0", laterOf(new int[] {1}, new int[] {-1}), -1);
        due("17 farther apart for less", laterOf(new int[] {1, 1}, new int[] {-1, -1}), -2);
        int[] up = {1, 1, 1, 1, 1, 1, 1, 1};
        int[] down = {-1, -1, -1, -1, -1, -1, -1, -1};
        due("17 no farther than 7", laterOf(up, down), -7);
        due("17 nothing beyond a row", laterOf(new int[] {0, 0, 5}, new int[] {0, 0, 0, 0, -5}), 0);
        due("17 great ones, of two the lesser", laterOf(new int[] {1000, -1000}, new int[] {-1000, 1000}), -1);
    }

    private static void promise18Turned() {
        VoiceParts x = new VoiceParts();
        hearAll(x, 0, 1, 2, 3, 4, 5, 6, 7, 8);
        int[] turned = {36, -4, -8, 0, -16, 0, 0, 0};
        for (int k = 0; k < 8; k++) {
            due("18 turned " + k, x.turned(k, 0), turned[k]);
            due("18 back " + k, x.turned(k, 1), k + 1);
        }
        x.clear(0);
        hearAll(x, 0, -1000, 999, -1000);
        int[] filled = {-1001, -2999, 999, -999, -1001, -2999, 999, -999};
        int[] back = {-1000, 999, -1000, 0, 0, 0, 0, 0};
        x.hear(1, 77);
        for (int k = 0; k < 8; k++) {
            due("18 filled up, turned " + k, x.turned(k, 0), filled[k]);
            due("18 filled up, back " + k, x.turned(k, 1), back[k]);
        }
        int[][] wrongs = {{-1, 0}, {8, 0}, {0, -1}, {0, 2}, {-1, 1}, {8, 1}, {LOW, 0}, {HIGH, 0}, {0, LOW}, {0, HIGH}};
        for (int[] w : wrongs) {
            due("18 wrong", x.turned(w[0], w[1]), BAD_TURNED);
        }
    }

    private static void promise19Truth() {
        VoiceParts x = boardOf(2, 3, 2);
        due("19 first", x.truth(1, 1, 2, 99), 0);
        due("19 again", x.truth(1, 1, 2, 0), 99);
        due("19 another", x.truth(0, 1, 2, 5), 0);
        int[][] wrongs = {{-1, 0, 0, 1}, {2, 0, 0, 1}, {0, -1, 0, 1}, {0, 2, 0, 1}, {0, 0, -1, 1}, {0, 0, 3, 1},
            {0, 1, 2, -1}, {0, 1, 2, 100}, {LOW, 0, 0, 1}, {HIGH, 0, 0, 1}, {0, HIGH, 0, 1}, {0, 0, LOW, 1},
            {0, 1, 2, LOW}, {0, 1, 2, HIGH}};
        for (int[] w : wrongs) {
            due("19 wrong", x.truth(w[0], w[1], w[2], w[3]), BAD);
        }
        due("19 stays", x.truth(0, 1, 2, 5), 5);
        due("19 the board is another thing", x.at(1, 2, 0), 0);
    }

    private static void promise20Apart() {
        // Each voice has a time of its own, and the truth is just so.
        VoiceParts x = boardOf(1, 3, 3, 1, 2, 4);
        x.begin(0, 1, 1, 0);
        x.begin(0, 1, 2, 0);
        x.begin(1, 1, 0, 0);
        x.begin(1, 1, 2, 0);
        x.begin(2, 1, 0, 0);
        x.begin(2, 1, 1, 0);
        x.truth(0, 0, 0, 1);
        x.truth(1, 0, 1, 2);
        x.truth(2, 0, 2, 4);
        int[] parts = {0, 12, 6, 14, 14, 10};
        for (int order = 0; order < 6; order++) {
            due("20 apart " + order, x.apart(order), parts[order]);
        }
        // Of all orders only 1 2 0 sets voice 0 against truth 1, voice 1 against 2, voice 2 against 0.
        x.truth(0, 0, 0, 0);
        x.truth(1, 0, 1, 0);
        x.truth(2, 0, 2, 0);
        x.truth(1, 0, 0, 1);
        x.truth(2, 0, 1, 2);
        x.truth(0, 0, 2, 4);
        int[] turnedParts = {14, 10, 12, 0, 14, 6};
        for (int order = 0; order < 6; order++) {
            due("20 turned apart " + order, x.apart(order), turnedParts[order]);
        }
        for (int wrong : new int[] {-1, 6, LOW, HIGH}) {
            due("20 wrong", x.apart(wrong), BAD);
        }
        x = boardOf(2, 1, 2, 8, 5);
        x.begin(0, 0, 0, 3);
        x.truth(0, 0, 0, 2);
        x.truth(1, 0, 0, 6);
        due("20 two voices, as they are", x.apart(0), 13);
        due("20 two voices, the other way", x.apart(1), 5);
        due("20 two voices, no more", x.apart(2), BAD);
        x = boardOf(1, 2, 1, 8, 5);
        x.truth(0, 0, 1, 99);
        due("20 one voice", x.apart(0), 102);
        due("20 one voice, no more", x.apart(1), BAD);
    }

    private static void promise21Order() {
        VoiceParts x = boardOf(1, 3, 3, 1, 2, 4);
        due("21 of like ones the least", x.order(), 0);
        int[][] orders = {{0, 1, 2}, {0, 2, 1}, {1, 0, 2}, {1, 2, 0}, {2, 0, 1}, {2, 1, 0}};
        for (int order = 0; order < 6; order++) {
            x.board(1, 3, 3);
            for (int k = 0; k < 3; k++) {
                x.set(0, k, 9);
                for (int time = 0; time < 3; time++) {
                    x.begin(k, 1, time, time == k ? 1 : 0);
                }
                x.truth(orders[order][k], 0, k, 9);
            }
            due("21 order " + order, x.order(), order);
            due("21 apart", x.apart(order), 0);
        }
        x = boardOf(1, 1, 2, 8);
        x.truth(0, 0, 0, 8);
        due("21 two alike", x.order(), 0);
        x.begin(0, 0, 0, 0);
        due("21 the other way", x.order(), 1);
        x = boardOf(1, 1, 1, 8);
        due("21 one voice", x.order(), 0);
    }

    private static void promise22Count() {
        VoiceParts x = boardOf(3, 7, 1);
        x.judge(2);
        x.bar(0, 0, 1);
        x.bar(0, 1, 1);
        hearAll(x, 0, 1, 2, 3, 4, 5);
        hearAll(x, 1, 1, 2, 3, 4, 5, 6);
        x.rounds(4);
        x.rounds(7);
        int[] counts = {3, 7, 1, 2, 2, 5, 6, 11};
        for (int what = 0; what < counts.length; what++) {
            due("22 count " + what, x.count(what), counts[what]);
        }
        for (int wrong : new int[] {-1, 8, LOW, HIGH}) {
            due("22 wrong", x.count(wrong), BAD);
        }
    }

    private static void promise23Trace() {
        VoiceParts x = boardOf(2, 2, 2, 9, 8, 7, 6);
        due("23 none", x.trace(), 0);
        x.cost(0, 5);
        due("23 plain", x.trace(), 1);
        x.cost(1, 5);
        due("23 square", x.trace(), 12);
        x.cost(2, 5);
        due("23 bent, little", x.trace(), 123);
        x.cost(2, 500);
        due("23 bent, much", x.trace(), 234);
        x.cost(3, 5);
        x.cost(2, 2001);
        x.cost(0, -1);
        due("23 none for what is refused", x.trace(), 234);
        x.judge(2);
        x.miss();
        x.rounds(3);
        x.order();
        due("23 cost() alone", x.trace(), 234);
    }
}
