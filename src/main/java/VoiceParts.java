import java.util.Arrays;

/**
 * Lays a board of tones over times apart into voices; the words in capitals
 * are those of the document.
 *
 * <p>Every array is made once, at its greatest size, in the constructor: no
 * call makes an object.
 */
public final class VoiceParts {
    public static final int BAD = -1, STATE = -2, FULL = -3, NONE = -9;

    /** BAD of turned(), whose plain answers reach -1 too. */
    private static final int BAD_TURNED = -1000000;

    private static final int MOST_TONES = 6;
    private static final int MOST_TIMES = 8;
    private static final int MOST_VOICES = 3;
    private static final int MOST_CELLS = MOST_TONES * MOST_TIMES;
    private static final int MOST_LOUD = 99;
    private static final int MOST_NUMBER = 20;
    private static final int MOST_DIFFERENCE = 2000;
    private static final int MOST_ROUNDS = 10;

    /** What `of` tells of a VOICE's number. */
    private static final int TONE = 0;
    private static final int TIME = 1;
    private static final int NUMBERS_OF_VOICE = MOST_TONES + MOST_TIMES;

    /** The KINDS of JUDGES, each standing over the next. */
    private static final int PLAIN = 0;
    private static final int SQUARE = 1;
    private static final int BENT = 2;

    private static final int ROWS = 2;
    private static final int ROW_LENGTH = 8;
    private static final int MOST_SOUND = 1000;
    private static final int MOST_LATER = ROW_LENGTH - 1;

    /** The orders of one, two and three VOICES, row after row, from the least on. */
    private static final int[] ORDERS_OF_ONE = {0};
    private static final int[] ORDERS_OF_TWO = {0, 1, 1, 0};
    private static final int[] ORDERS_OF_THREE = {0, 1, 2, 0, 2, 1, 1, 0, 2, 1, 2, 0, 2, 0, 1, 2, 1, 0};

    private int tones;
    private int times;
    private int voices;
    private final int[] boardNumbers = new int[MOST_CELLS];
    private final int[] voiceNumbers = new int[MOST_VOICES * NUMBERS_OF_VOICE];
    /** A bit for each place in voiceNumbers. */
    private long barred;
    private final int[] truthNumbers = new int[MOST_VOICES * MOST_CELLS];
    private final int[] rowNumbers = new int[ROWS * ROW_LENGTH];
    private final int[] rowSizes = new int[ROWS];
    private int judgeKind;
    private int roundsEver;
    private long traceSum;

    public VoiceParts() {
        layBoard(4, 4, 2);
        judgeKind = PLAIN;
    }

    // ---- the board, its voices

    public int board(int f, int t, int k) {
        if (!within(f, 1, MOST_TONES) || !within(t, 1, MOST_TIMES) || !within(k, 1, MOST_VOICES)) {
            return BAD;
        }
        layBoard(f, t, k);
        return f * t;
    }

    public int set(int tone, int time, int v) {
        if (!isCell(tone, time) || !within(v, 0, MOST_LOUD)) {
            return BAD;
        }
        int was = boardAt(tone, time);
        boardNumbers[cell(tone, time)] = v;
        return was;
    }

    public int at(int tone, int time, int what) {
        if (!isCell(tone, time)) {
            return BAD;
        }
        switch (what) {
            case 0:
                return boardAt(tone, time);
            case 1:
                return sumAt(tone, time);
            case 2:
                return backgroundAt(bestPeriod(), tone, time);
            default:
                return BAD;
        }
    }

    public int number(int voice, int of, int i) {
        if (!isNumber(voice, of, i)) {
            return BAD;
        }
        return voiceNumbers[place(voice, of, i)];
    }

    public int begin(int voice, int of, int i, int v) {
        if (!isNumber(voice, of, i) || !within(v, 0, MOST_NUMBER)) {
            return BAD;
        }
        int place = place(voice, of, i);
        if (isBarred(place)) {
            return STATE;
        }
        int was = voiceNumbers[place];
        voiceNumbers[place] = v;
        return was;
    }

    public int bar(int voice, int of, int i) {
        if (!isNumber(voice, of, i)) {
            return BAD;
        }
        int place = place(voice, of, i);
        if (isBarred(place)) {
            return STATE;
        }
        int was = voiceNumbers[place];
        voiceNumbers[place] = 0;
        barred |= 1L << place;
        return was;
    }

    public int judge(int kind) {
        if (!isKind(kind)) {
            return BAD;
        }
        int was = judgeKind;
        judgeKind = kind;
        return was;
    }

    public int cost(int kind, int d) {
        if (!isKind(kind) || !within(d, 0, MOST_DIFFERENCE)) {
            return BAD;
        }
        traceSum += traceOfKind(kind);
        return costBy(kind, d);
    }

    public int miss() {
        int sum = 0;
        for (int tone = 0; tone < tones; tone++) {
            sum += missAlong(TONE, tone);
        }
        return sum;
    }

    public int rounds(int n) {
        if (!within(n, 1, MOST_ROUNDS)) {
            return BAD;
        }
        for (int round = 0; round < n; round++) {
            playRound();
        }
        roundsEver += n;
        return miss();
    }

    // ---- shares, background

    public int share(int voice, int tone, int time) {
        if (!isVoice(voice) || !isCell(tone, time)) {
            return BAD;
        }
        return shareAt(voice, tone, time);
    }

    public int background(int p, int tone, int time) {
        if (!within(p, 1, times) || !isCell(tone, time)) {
            return BAD;
        }
        return backgroundAt(p, tone, time);
    }

    public int period() {
        return bestPeriod();
    }

    // ---- rows, truth

    public int hear(int row, int v) {
        if (!isRow(row) || !within(v, -MOST_SOUND, MOST_SOUND)) {
            return BAD;
        }
        int size = rowSizes[row];
        if (size >= ROW_LENGTH) {
            return FULL;
        }
        rowNumbers[row * ROW_LENGTH + size] = v;
        rowSizes[row] = size + 1;
        return size + 1;
    }

    public int clear(int row) {
        if (!isRow(row)) {
            return BAD;
        }
        int was = rowSizes[row];
        rowSizes[row] = 0;
        return was;
    }

    public int later() {
        if (rowSizes[0] == 0 || rowSizes[1] == 0) {
            return NONE;
        }
        int best = -MOST_LATER;
        int greatest = productsAt(best);
        // The lesser one of two comes first, so one that is only as near never displaces it.
        for (int d = best + 1; d <= MOST_LATER; d++) {
            int products = productsAt(d);
            boolean nearer = Math.abs(d) < Math.abs(best);
            if (products > greatest || (products == greatest && nearer)) {
                greatest = products;
                best = d;
            }
        }
        return best;
    }

    public int turned(int k, int what) {
        if (!within(k, 0, ROW_LENGTH - 1)) {
            return BAD_TURNED;
        }
        switch (what) {
            case 0:
                return turnedAt(k);
            case 1:
                return backAt(k);
            default:
                return BAD_TURNED;
        }
    }

    public int truth(int voice, int tone, int time, int v) {
        if (!isVoice(voice) || !isCell(tone, time) || !within(v, 0, MOST_LOUD)) {
            return BAD;
        }
        int place = truthPlace(voice, tone, time);
        int was = truthNumbers[place];
        truthNumbers[place] = v;
        return was;
    }

    public int apart(int order) {
        if (!within(order, 0, howManyOrders() - 1)) {
            return BAD;
        }
        return apartBy(order);
    }

    public int order() {
        int best = 0;
        int least = apartBy(0);
        int orders = howManyOrders();
        for (int order = 1; order < orders; order++) {
            int apart = apartBy(order);
            if (apart < least) {
                least = apart;
                best = order;
            }
        }
        return best;
    }

    public int count(int what) {
        switch (what) {
            case 0:
                return tones;
            case 1:
                return times;
            case 2:
                return voices;
            case 3:
                return judgeKind;
            case 4:
                return Long.bitCount(barred);
            case 5:
                return rowSizes[0];
            case 6:
                return rowSizes[1];
            case 7:
                return roundsEver;
            default:
                return BAD;
        }
    }

    public long trace() {
        return traceSum;
    }

    // ---- what there is

    private static boolean within(int x, int least, int most) {
        return x >= least && x <= most;
    }

    private static boolean isKind(int kind) {
        return within(kind, PLAIN, BENT);
    }

    private static boolean isRow(int row) {
        return within(row, 0, ROWS - 1);
    }

    private boolean isVoice(int voice) {
        return within(voice, 0, voices - 1);
    }

    private boolean isCell(int tone, int time) {
        return within(tone, 0, tones - 1) && within(time, 0, times - 1);
    }

    private boolean isNumber(int voice, int of, int i) {
        return isVoice(voice) && within(of, TONE, TIME) && within(i, 0, howManyOf(of) - 1);
    }

    private int howManyOf(int of) {
        return of == TONE ? tones : times;
    }

    private boolean isBarred(int place) {
        return (barred >>> place & 1L) != 0;
    }

    private static int cell(int tone, int time) {
        return tone * MOST_TIMES + time;
    }

    private static int place(int voice, int of, int i) {
        return voice * NUMBERS_OF_VOICE + (of == TONE ? i : MOST_TONES + i);
    }

    private static int truthPlace(int voice, int tone, int time) {
        return voice * MOST_CELLS + cell(tone, time);
    }

    // ---- board and sum

    private void layBoard(int f, int t, int k) {
        tones = f;
        times = t;
        voices = k;
        Arrays.fill(boardNumbers, 0);
        Arrays.fill(voiceNumbers, 1);
        Arrays.fill(truthNumbers, 0);
        barred = 0L;
    }

    private int boardAt(int tone, int time) {
        return boardNumbers[cell(tone, time)];
    }

    private int productAt(int voice, int tone, int time) {
        int first = voice * NUMBERS_OF_VOICE;
        return voiceNumbers[first + tone] * voiceNumbers[first + MOST_TONES + time];
    }

    private int sumAt(int tone, int time) {
        int sum = 0;
        for (int voice = 0; voice < voices; voice++) {
            sum += productAt(voice, tone, time);
        }
        return sum;
    }

    // ---- judges and rounds

    /** Each KIND takes over what the one that stands over it answers. */
    private static int costBy(int kind, int d) {
        int up = d;
        if (kind >= SQUARE) {
            up = up * up;
        }
        if (kind >= BENT && up > 100) {
            up = 90 + up / 10;
        }
        return up;
    }

    /** A KIND's body asks the one that stands over it once, so its trace holds theirs too. */
    private static int traceOfKind(int kind) {
        switch (kind) {
            case PLAIN:
                return 1;
            case SQUARE:
                return 11;
            default:
                return 111;
        }
    }

    private int costAt(int tone, int time) {
        return costBy(judgeKind, Math.abs(boardAt(tone, time) - sumAt(tone, time)));
    }

    /** The part of MISS that stands at one TONE (all TIMES), or at one TIME (all TONES). */
    private int missAlong(int of, int i) {
        int across = howManyOf(of == TONE ? TIME : TONE);
        int sum = 0;
        for (int j = 0; j < across; j++) {
            sum += of == TONE ? costAt(i, j) : costAt(j, i);
        }
        return sum;
    }

    private void playRound() {
        for (int voice = 0; voice < voices; voice++) {
            for (int of = TONE; of <= TIME; of++) {
                int numbers = howManyOf(of);
                for (int i = 0; i < numbers; i++) {
                    stepNumber(voice, of, i);
                }
            }
        }
    }

    /** A number changes MISS along its own TONE or TIME alone, so comparing that part is enough. */
    private void stepNumber(int voice, int of, int i) {
        int place = place(voice, of, i);
        if (isBarred(place)) {
            return;
        }
        int itself = voiceNumbers[place];
        int best = itself;
        int least = missAlong(of, i);
        // The lesser one is tried first, and a like one never displaces an earlier one.
        for (int next = itself - 1; next <= itself + 1; next += 2) {
            if (within(next, 0, MOST_NUMBER)) {
                voiceNumbers[place] = next;
                int reached = missAlong(of, i);
                if (reached < least) {
                    least = reached;
                    best = next;
                }
            }
        }
        voiceNumbers[place] = best;
    }

    // ---- shares and background, worked out

    private int shareAt(int voice, int tone, int time) {
        int v = boardAt(tone, time);
        int all = sumAt(tone, time);
        if (all <= 0) {
            return voice == 0 ? v : 0;
        }
        int own = v * productAt(voice, tone, time);
        int left = v;
        int ahead = 0;
        for (int other = 0; other < voices; other++) {
            int theirs = v * productAt(other, tone, time);
            left -= theirs / all;
            if (theirs % all > own % all || (theirs % all == own % all && other < voice)) {
                ahead++;
            }
        }
        return own / all + (ahead < left ? 1 : 0);
    }

    private static boolean areInStep(int time, int other, int p) {
        return p > 0 && (time - other) % p == 0;
    }

    /** Ranks the numbers instead of sorting them, so that no row has to be made. */
    private int backgroundAt(int p, int tone, int time) {
        int inStep = 0;
        for (int other = 0; other < times; other++) {
            if (areInStep(time, other, p)) {
                inStep++;
            }
        }
        int middle = (inStep - 1) / 2;
        for (int other = 0; other < times; other++) {
            if (areInStep(time, other, p) && howManyAhead(p, tone, other) == middle) {
                return boardAt(tone, other);
            }
        }
        return boardAt(tone, time);
    }

    /** How many in step with a TIME stand ahead of it in order; like ones stand as their TIMES do. */
    private int howManyAhead(int p, int tone, int time) {
        int v = boardAt(tone, time);
        int ahead = 0;
        for (int other = 0; other < times; other++) {
            int w = boardAt(tone, other);
            if (areInStep(time, other, p) && (w < v || (w == v && other < time))) {
                ahead++;
            }
        }
        return ahead;
    }

    private int priceOfPeriod(int p) {
        int sum = p * tones;
        for (int tone = 0; tone < tones; tone++) {
            for (int time = 0; time < times; time++) {
                sum += Math.abs(boardAt(tone, time) - backgroundAt(p, tone, time));
            }
        }
        return sum;
    }

    private int bestPeriod() {
        int best = 1;
        int least = priceOfPeriod(1);
        for (int p = 2; p <= times; p++) {
            int price = priceOfPeriod(p);
            if (price < least) {
                least = price;
                best = p;
            }
        }
        return best;
    }

    // ---- rows and truth, worked out

    private int filledRowAt(int i) {
        return i < rowSizes[0] ? rowNumbers[i] : 0;
    }

    private int productsAt(int d) {
        int sum = 0;
        for (int i = 0; i < rowSizes[0]; i++) {
            int j = i + d;
            if (within(j, 0, rowSizes[1] - 1)) {
                sum += rowNumbers[i] * rowNumbers[ROW_LENGTH + j];
            }
        }
        return sum;
    }

    private static int sign(int k, int i) {
        return Integer.bitCount(k & i) % 2 == 0 ? 1 : -1;
    }

    private int turnedAt(int k) {
        int sum = 0;
        for (int i = 0; i < ROW_LENGTH; i++) {
            sum += sign(k, i) * filledRowAt(i);
        }
        return sum;
    }

    private int backAt(int k) {
        int sum = 0;
        for (int i = 0; i < ROW_LENGTH; i++) {
            sum += sign(k, i) * turnedAt(i);
        }
        return sum / ROW_LENGTH;
    }

    private int howManyOrders() {
        switch (voices) {
            case 1:
                return 1;
            case 2:
                return 2;
            default:
                return 6;
        }
    }

    private int voiceInOrder(int order, int k) {
        switch (voices) {
            case 1:
                return ORDERS_OF_ONE[order + k];
            case 2:
                return ORDERS_OF_TWO[order * 2 + k];
            default:
                return ORDERS_OF_THREE[order * 3 + k];
        }
    }

    private int apartBy(int order) {
        int sum = 0;
        for (int voice = 0; voice < voices; voice++) {
            sum += apartOfVoice(voice, voiceInOrder(order, voice));
        }
        return sum;
    }

    private int apartOfVoice(int voice, int truthVoice) {
        int sum = 0;
        for (int tone = 0; tone < tones; tone++) {
            for (int time = 0; time < times; time++) {
                int held = truthNumbers[truthPlace(truthVoice, tone, time)];
                sum += Math.abs(shareAt(voice, tone, time) - held);
            }
        }
        return sum;
    }
}
