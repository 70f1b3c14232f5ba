import java.util.ArrayList;
import java.util.Arrays;
import java.util.List;

/**
 * Every argument of every call at its least and its greatest, just outside of
 * both and far outside, on small and great boards: what is within is taken,
 * what is outside is BAD, and "nothing changes".
 */
public final class BoundsTests {
    private static final int BAD = -1, BAD_TURNED = -1000000;
    private static final int[][] BOARDS = {{1, 1, 1}, {2, 3, 2}, {4, 2, 3}, {6, 8, 3}};
    private static final Checks CHECKS = new Checks();

    /** A call whose arguments stand in a row. */
    private interface Call {
        int on(VoiceParts x, int[] a);
    }

    /** A call with the least and the greatest of each of its arguments, in turn. */
    private record Bounded(String name, int bad, Call call, int... bounds) {
        int arguments() {
            return bounds.length / 2;
        }

        /** All arguments at their least, or all at their greatest. */
        int[] allAt(boolean greatest) {
            int[] a = new int[arguments()];
            for (int i = 0; i < a.length; i++) {
                a[i] = bounds[2 * i + (greatest ? 1 : 0)];
            }
            return a;
        }

        int[] outside(int i) {
            return new int[] {bounds[2 * i] - 1, bounds[2 * i + 1] + 1, Integer.MIN_VALUE, Integer.MAX_VALUE};
        }

        String told(int[] a) {
            return name + Arrays.toString(a);
        }
    }

    public static void main(String[] args) {
        for (int[] size : BOARDS) {
            for (Bounded bounded : calls(size[0], size[1], size[2])) {
                withinIsTaken(bounded, size);
                outsideIsRefused(bounded, size);
                allOutsideIsRefused(bounded, size);
            }
        }
        whatNeedsNoArgumentIsAlwaysTaken();
        CHECKS.end("BoundsTests");
    }

    private static List<Bounded> calls(int f, int t, int k) {
        int orders = k == 3 ? 6 : k;
        List<Bounded> calls = new ArrayList<>(List.of(
            new Bounded("board", BAD, (x, a) -> x.board(a[0], a[1], a[2]), 1, 6, 1, 8, 1, 3),
            new Bounded("set", BAD, (x, a) -> x.set(a[0], a[1], a[2]), 0, f - 1, 0, t - 1, 0, 99),
            new Bounded("at", BAD, (x, a) -> x.at(a[0], a[1], a[2]), 0, f - 1, 0, t - 1, 0, 2),
            new Bounded("judge", BAD, (x, a) -> x.judge(a[0]), 0, 2),
            new Bounded("cost", BAD, (x, a) -> x.cost(a[0], a[1]), 0, 2, 0, 2000),
            new Bounded("rounds", BAD, (x, a) -> x.rounds(a[0]), 1, 10),
            new Bounded("share", BAD, (x, a) -> x.share(a[0], a[1], a[2]), 0, k - 1, 0, f - 1, 0, t - 1),
            new Bounded("background", BAD, (x, a) -> x.background(a[0], a[1], a[2]), 1, t, 0, f - 1, 0, t - 1)));
        calls.addAll(callsOnNumbers(f, t, k));
        calls.addAll(List.of(
            new Bounded("hear", BAD, (x, a) -> x.hear(a[0], a[1]), 0, 1, -1000, 1000),
            new Bounded("clear", BAD, (x, a) -> x.clear(a[0]), 0, 1),
            new Bounded("turned", BAD_TURNED, (x, a) -> x.turned(a[0], a[1]), 0, 7, 0, 1),
            new Bounded("truth", BAD, (x, a) -> x.truth(a[0], a[1], a[2], a[3]), 0, k - 1, 0, f - 1, 0, t - 1, 0, 99),
            new Bounded("apart", BAD, (x, a) -> x.apart(a[0]), 0, orders - 1),
            new Bounded("count", BAD, (x, a) -> x.count(a[0]), 0, 7)));
        return calls;
    }

    /** There are as many places as TONES, or as TIMES, so each of both is a case of its own. */
    private static List<Bounded> callsOnNumbers(int f, int t, int k) {
        return List.of(
            new Bounded("number: a tone", BAD, (x, a) -> x.number(a[0], 0, a[1]), 0, k - 1, 0, f - 1),
            new Bounded("number: a time", BAD, (x, a) -> x.number(a[0], 1, a[1]), 0, k - 1, 0, t - 1),
            new Bounded("number: of", BAD, (x, a) -> x.number(k - 1, a[0], 0), 0, 1),
            new Bounded("begin: a tone", BAD, (x, a) -> x.begin(a[0], 0, a[1], a[2]), 0, k - 1, 0, f - 1, 0, 20),
            new Bounded("begin: a time", BAD, (x, a) -> x.begin(a[0], 1, a[1], a[2]), 0, k - 1, 0, t - 1, 0, 20),
            new Bounded("begin: of", BAD, (x, a) -> x.begin(k - 1, a[0], 0, 7), 0, 1),
            new Bounded("bar: a tone", BAD, (x, a) -> x.bar(a[0], 0, a[1]), 0, k - 1, 0, f - 1),
            new Bounded("bar: a time", BAD, (x, a) -> x.bar(a[0], 1, a[1]), 0, k - 1, 0, t - 1),
            new Bounded("bar: of", BAD, (x, a) -> x.bar(k - 1, a[0], 0), 0, 1));
    }

    private static VoiceParts laid(int[] size) {
        VoiceParts x = new VoiceParts();
        x.board(size[0], size[1], size[2]);
        return x;
    }

    /** One that has something at every place that a refused call could spoil. */
    private static VoiceParts used(int[] size) {
        VoiceParts x = new VoiceParts();
        int f = size[0];
        int t = size[1];
        int k = size[2];
        // A greater board first, so that places beyond the edge have been used too.
        x.board(6, 8, 3);
        x.set(5, 7, 98);
        x.bar(2, 1, 7);
        x.board(f, t, k);
        x.set(0, 0, 41);
        x.set(f - 1, t - 1, 73);
        x.begin(0, 0, 0, 6);
        x.begin(k - 1, 1, t - 1, 9);
        x.truth(0, 0, 0, 12);
        x.truth(k - 1, f - 1, t - 1, 34);
        x.judge(1);
        x.rounds(2);
        x.bar(k - 1, 0, f - 1);
        for (int i = 0; i < 8; i++) {
            x.hear(0, 3 * i - 11);
        }
        x.hear(1, 5);
        x.hear(1, -6);
        x.cost(1, 3);
        return x;
    }

    /** All that can be asked of an object, and is as it was after the asking. */
    private static long[] everything(VoiceParts x) {
        List<Long> all = new ArrayList<>();
        for (int what = 0; what < 8; what++) {
            all.add((long) x.count(what));
            all.add((long) x.turned(what, 0));
        }
        all.add(x.trace());
        all.add((long) x.later());
        all.add((long) x.period());
        all.add((long) x.miss());
        all.add((long) x.order());
        int f = x.count(0);
        int t = x.count(1);
        int k = x.count(2);
        for (int voice = 0; voice < k; voice++) {
            for (int i = 0; i < f + t; i++) {
                all.add((long) x.number(voice, i < f ? 0 : 1, i < f ? i : i - f));
            }
        }
        for (int cell = 0; cell < f * t; cell++) {
            all.add((long) x.at(cell / t, cell % t, 0));
            // TRUTH is only told as it changes: at the two places that were used it is put back.
            for (int voice = 0; voice < k; voice++) {
                int held = x.truth(voice, cell / t, cell % t, 0);
                all.add((long) held);
                if (held != 0) {
                    x.truth(voice, cell / t, cell % t, held);
                }
            }
        }
        return all.stream().mapToLong(Long::longValue).toArray();
    }

    private static void withinIsTaken(Bounded bounded, int[] size) {
        for (boolean greatest : new boolean[] {false, true}) {
            int[] a = bounded.allAt(greatest);
            int got = bounded.call().on(laid(size), a);
            CHECKS.holds(bounded.told(a) + " is taken on " + Arrays.toString(size), got >= 0);
        }
        // Each argument at its greatest, with the others at their least.
        for (int i = 0; i < bounded.arguments(); i++) {
            int[] a = bounded.allAt(false);
            a[i] = bounded.allAt(true)[i];
            int got = bounded.call().on(laid(size), a);
            CHECKS.holds(bounded.told(a) + " is taken on " + Arrays.toString(size), got >= 0);
        }
    }

    private static void outsideIsRefused(Bounded bounded, int[] size) {
        for (int i = 0; i < bounded.arguments(); i++) {
            for (int wrong : bounded.outside(i)) {
                for (boolean greatest : new boolean[] {false, true}) {
                    int[] a = bounded.allAt(greatest);
                    a[i] = wrong;
                    isRefused(bounded, a, size);
                }
            }
        }
    }

    private static void allOutsideIsRefused(Bounded bounded, int[] size) {
        for (int which = 0; which < 4; which++) {
            int[] a = new int[bounded.arguments()];
            for (int i = 0; i < a.length; i++) {
                a[i] = bounded.outside(i)[which];
            }
            isRefused(bounded, a, size);
        }
    }

    private static void isRefused(Bounded bounded, int[] a, int[] size) {
        VoiceParts x = used(size);
        String where = bounded.told(a) + " on " + Arrays.toString(size);
        CHECKS.due(where, bounded.call().on(x, a), bounded.bad());
        CHECKS.holds(where + " changes nothing", Arrays.equals(everything(x), everything(used(size))));
    }

    private static void whatNeedsNoArgumentIsAlwaysTaken() {
        for (int[] size : BOARDS) {
            VoiceParts x = laid(size);
            CHECKS.due("miss() of a new board", x.miss(), size[0] * size[1] * size[2]);
            CHECKS.due("period() of a new board", x.period(), 1);
            CHECKS.due("order() of a new board", x.order(), 0);
            CHECKS.due("later() of a new board", x.later(), -9);
            CHECKS.due("trace() of a new board", x.trace(), 0);
        }
    }
}
