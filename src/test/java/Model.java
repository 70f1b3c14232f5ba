import java.util.ArrayList;
import java.util.Arrays;
import java.util.Collections;
import java.util.List;

/**
 * The document once more, word by word and as slowly as it likes, by other
 * means than the program: MISS is taken whole for each try, shares are dealt
 * out, numbers are sorted, orders are listed.
 */
final class Model {
    private static final int BAD = -1, STATE = -2, FULL = -3, NONE = -9;

    private int[][] board = new int[4][4];
    private int[][][] numbers = ones(4, 4, 2);
    private boolean[][][] barred = free(4, 4, 2);
    private int[][][] truth = new int[2][4][4];
    private final List<List<Integer>> rows = List.of(new ArrayList<>(), new ArrayList<>());
    private int kind = 0;
    private int rounds = 0;
    private long trace = 0;

    private static int[][][] ones(int f, int t, int k) {
        int[][][] made = new int[k][][];
        for (int voice = 0; voice < k; voice++) {
            made[voice] = new int[][] {new int[f], new int[t]};
            Arrays.fill(made[voice][0], 1);
            Arrays.fill(made[voice][1], 1);
        }
        return made;
    }

    private static boolean[][][] free(int f, int t, int k) {
        boolean[][][] made = new boolean[k][][];
        for (int voice = 0; voice < k; voice++) {
            made[voice] = new boolean[][] {new boolean[f], new boolean[t]};
        }
        return made;
    }

    private static boolean out(int x, int below) {
        return x < 0 || x >= below;
    }

    private boolean noCell(int tone, int time) {
        return out(tone, board.length) || out(time, board[0].length);
    }

    private boolean noNumber(int voice, int of, int i) {
        return out(voice, numbers.length) || out(of, 2) || out(i, numbers[voice][of].length);
    }

    int board(int f, int t, int k) {
        if (f < 1 || f > 6 || t < 1 || t > 8 || k < 1 || k > 3) {
            return BAD;
        }
        board = new int[f][t];
        numbers = ones(f, t, k);
        barred = free(f, t, k);
        truth = new int[k][f][t];
        return f * t;
    }

    int set(int tone, int time, int v) {
        if (noCell(tone, time) || out(v, 100)) {
            return BAD;
        }
        int was = board[tone][time];
        board[tone][time] = v;
        return was;
    }

    int at(int tone, int time, int what) {
        if (noCell(tone, time) || out(what, 3)) {
            return BAD;
        }
        return what == 0 ? board[tone][time] : what == 1 ? sum(tone, time) : background(period(), tone, time);
    }

    private int sum(int tone, int time) {
        int sum = 0;
        for (int[][] voice : numbers) {
            sum += voice[0][tone] * voice[1][time];
        }
        return sum;
    }

    int number(int voice, int of, int i) {
        return noNumber(voice, of, i) ? BAD : numbers[voice][of][i];
    }

    int begin(int voice, int of, int i, int v) {
        if (noNumber(voice, of, i) || out(v, 21)) {
            return BAD;
        }
        if (barred[voice][of][i]) {
            return STATE;
        }
        int was = numbers[voice][of][i];
        numbers[voice][of][i] = v;
        return was;
    }

    int bar(int voice, int of, int i) {
        if (noNumber(voice, of, i)) {
            return BAD;
        }
        int was = begin(voice, of, i, 0);
        barred[voice][of][i] = true;
        return was;
    }

    int judge(int kind) {
        if (out(kind, 3)) {
            return BAD;
        }
        int was = this.kind;
        this.kind = kind;
        return was;
    }

    private static int[] traced(int kind, int d) {
        if (kind == 0) {
            return new int[] {d, 1};
        }
        int[] up = traced(kind - 1, d);
        if (kind == 1) {
            return new int[] {up[0] * up[0], up[1] + 10};
        }
        return new int[] {up[0] <= 100 ? up[0] : Math.floorDiv(900 + up[0], 10), up[1] + 100};
    }

    int cost(int kind, int d) {
        if (out(kind, 3) || out(d, 2001)) {
            return BAD;
        }
        int[] cost = traced(kind, d);
        trace += cost[1];
        return cost[0];
    }

    int miss() {
        int sum = 0;
        for (int tone = 0; tone < board.length; tone++) {
            for (int time = 0; time < board[0].length; time++) {
                sum += traced(kind, Math.abs(board[tone][time] - sum(tone, time)))[0];
            }
        }
        return sum;
    }

    int rounds(int n) {
        if (n < 1 || n > 10) {
            return BAD;
        }
        for (int round = 0; round < n; round++) {
            for (int voice = 0; voice < numbers.length; voice++) {
                for (int of = 0; of < 2; of++) {
                    for (int i = 0; i < numbers[voice][of].length; i++) {
                        if (!barred[voice][of][i]) {
                            move(numbers[voice][of], i);
                        }
                    }
                }
            }
        }
        rounds += n;
        return miss();
    }

    private void move(int[] of, int i) {
        int itself = of[i];
        int best = itself;
        int least = Integer.MAX_VALUE;
        for (int by : new int[] {0, -1, 1}) {
            of[i] = itself + by;
            if (!out(of[i], 21) && miss() < least) {
                least = miss();
                best = of[i];
            }
        }
        of[i] = best;
    }

    private int[] shares(int tone, int time) {
        int k = numbers.length;
        int v = board[tone][time];
        int all = sum(tone, time);
        int[] dealt = new int[k];
        if (all == 0) {
            dealt[0] = v;
            return dealt;
        }
        int left = v;
        List<int[]> cut = new ArrayList<>();
        for (int voice = 0; voice < k; voice++) {
            int p = numbers[voice][0][tone] * numbers[voice][1][time];
            dealt[voice] = v * p / all;
            left -= dealt[voice];
            cut.add(new int[] {v * p - dealt[voice] * all, voice});
        }
        cut.sort((a, b) -> a[0] != b[0] ? b[0] - a[0] : a[1] - b[1]);
        for (int i = 0; left > 0; i = (i + 1) % k) {
            dealt[cut.get(i)[1]]++;
            left--;
        }
        return dealt;
    }

    int share(int voice, int tone, int time) {
        return out(voice, numbers.length) || noCell(tone, time) ? BAD : shares(tone, time)[voice];
    }

    int background(int p, int tone, int time) {
        if (p < 1 || p > board[0].length || noCell(tone, time)) {
            return BAD;
        }
        List<Integer> same = new ArrayList<>();
        for (int other = time % p; other < board[0].length; other += p) {
            same.add(board[tone][other]);
        }
        Collections.sort(same);
        return same.get(same.size() % 2 == 1 ? same.size() / 2 : same.size() / 2 - 1);
    }

    int period() {
        int best = 0;
        int least = Integer.MAX_VALUE;
        for (int p = 1; p <= board[0].length; p++) {
            int price = 0;
            for (int tone = 0; tone < board.length; tone++) {
                price += p;
                for (int time = 0; time < board[0].length; time++) {
                    price += Math.abs(board[tone][time] - background(p, tone, time));
                }
            }
            if (price < least) {
                least = price;
                best = p;
            }
        }
        return best;
    }

    int hear(int row, int v) {
        if (out(row, 2) || v < -1000 || v > 1000) {
            return BAD;
        }
        if (rows.get(row).size() == 8) {
            return FULL;
        }
        rows.get(row).add(v);
        return rows.get(row).size();
    }

    int clear(int row) {
        if (out(row, 2)) {
            return BAD;
        }
        int was = rows.get(row).size();
        rows.get(row).clear();
        return was;
    }

    int later() {
        if (rows.get(0).isEmpty() || rows.get(1).isEmpty()) {
            return NONE;
        }
        List<long[]> tries = new ArrayList<>();
        for (int d = -7; d <= 7; d++) {
            long sum = 0;
            for (int i = 0; i < rows.get(0).size(); i++) {
                for (int j = 0; j < rows.get(1).size(); j++) {
                    sum += j == i + d ? (long) rows.get(0).get(i) * rows.get(1).get(j) : 0;
                }
            }
            tries.add(new long[] {-sum, Math.abs(d), d});
        }
        tries.sort(Arrays::compare);
        return (int) tries.get(0)[2];
    }

    int turned(int k, int what) {
        if (out(k, 8) || out(what, 2)) {
            return -1000000;
        }
        int sum = 0;
        for (int i = 0; i < rows.get(0).size(); i++) {
            int common = (k & 1) * (i & 1) + (k >> 1 & 1) * (i >> 1 & 1) + (k >> 2 & 1) * (i >> 2 & 1);
            sum += common % 2 == 1 ? -rows.get(0).get(i) : rows.get(0).get(i);
        }
        return what == 0 ? sum : k < rows.get(0).size() ? rows.get(0).get(k) : 0;
    }

    int truth(int voice, int tone, int time, int v) {
        if (out(voice, truth.length) || noCell(tone, time) || out(v, 100)) {
            return BAD;
        }
        int was = truth[voice][tone][time];
        truth[voice][tone][time] = v;
        return was;
    }

    /** All orders of the voices that are not yet in the row, from the least on. */
    private static void listOrders(int k, List<Integer> row, List<List<Integer>> orders) {
        if (row.size() == k) {
            orders.add(row);
            return;
        }
        for (int voice = 0; voice < k; voice++) {
            if (!row.contains(voice)) {
                List<Integer> longer = new ArrayList<>(row);
                longer.add(voice);
                listOrders(k, longer, orders);
            }
        }
    }

    private List<Integer> parts() {
        List<List<Integer>> orders = new ArrayList<>();
        listOrders(numbers.length, List.of(), orders);
        List<Integer> parts = new ArrayList<>();
        for (List<Integer> order : orders) {
            int sum = 0;
            for (int tone = 0; tone < board.length; tone++) {
                for (int time = 0; time < board[0].length; time++) {
                    int[] shares = shares(tone, time);
                    for (int k = 0; k < shares.length; k++) {
                        sum += Math.abs(shares[k] - truth[order.get(k)][tone][time]);
                    }
                }
            }
            parts.add(sum);
        }
        return parts;
    }

    int apart(int order) {
        List<Integer> parts = parts();
        return out(order, parts.size()) ? BAD : parts.get(order);
    }

    int order() {
        List<Integer> parts = parts();
        return parts.indexOf(Collections.min(parts));
    }

    int count(int what) {
        int barredNow = 0;
        for (boolean[][] voice : barred) {
            for (boolean[] of : voice) {
                for (boolean one : of) {
                    barredNow += one ? 1 : 0;
                }
            }
        }
        int[] counts = {board.length, board[0].length, numbers.length, kind, barredNow,
            rows.get(0).size(), rows.get(1).size(), rounds};
        return out(what, counts.length) ? BAD : counts[what];
    }

    long trace() {
        return trace;
    }
}
