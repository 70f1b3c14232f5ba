import java.util.Arrays;

/**
 * The document's sentences that name a boundary case, in its order, each with
 * a test of its own; answers are worked out by hand. No object here is asked
 * more than 512 times.
 */
public final class EdgeTests {
    private static final int BAD = -1, STATE = -2, FULL = -3, NONE = -9, BAD_TURNED = -1000000;
    private static final int PLAIN = 0, SQUARE = 1, BENT = 2;
    private static final Checks CHECKS = new Checks();

    private static String sentence = "";
    private static int asked = 0;

    public static void main(String[] args) {
        whatItIs();
        theBoard();
        judges();
        aRound();
        shares();
        theBackground();
        rows();
        theTruth();
        refusals();
        promisesOfTheBoard();
        promisesOfTheRest();
        CHECKS.end("EdgeTests");
    }

    private static void whatItIs() {
        edge("An object is used for at most 512 calls", EdgeTests::the512thRound);
        edge("An object is used for at most 512 calls", EdgeTests::the512thOfEveryKind);
        edge("by rounds whose miss never rises", EdgeTests::missNeverRises);
        edge("shares of what is there that sum to it exactly", EdgeTests::sharesSumExactly);
        edge("what a score bars stays barred", EdgeTests::barredStaysBarred);
        edge("a row of sounds turned and back", EdgeTests::turnedAndBack);
    }

    private static void theBoard() {
        edge("F TONES (1 .. 6)", EdgeTests::oneToSixTones);
        edge("T TIMES (1 .. 8)", EdgeTests::oneToEightTimes);
        edge("(4, 4 at first)", EdgeTests::fourByFourAtFirst);
        edge("a number 0 .. 99 at each (0 at first)", EdgeTests::numbersOfTheBoard);
        edge("VOICES are 0 .. K - 1 (K 1 .. 3; 2 at first)", EdgeTests::oneToThreeVoices);
        edge("each has TONE numbers, TIME numbers, 0 .. 20 each (1 at first)", EdgeTests::numbersOfVoices);
        edge("THE SUM: over VOICES of TONE number times TIME number", EdgeTests::leastAndGreatestSum);
    }

    private static void judges() {
        edge("JUDGES are of KINDS: 0 PLAIN, 1 SQUARE, 2 BENT", EdgeTests::threeKinds);
        edge("COST of a difference d of 0 or more: PLAIN d", EdgeTests::plainCost);
        edge("SQUARE up times itself", EdgeTests::squareCost);
        edge("BENT up, where that is 100 or less", EdgeTests::bentCostToHundred);
        edge("else 90 and a tenth of it, rounded down", EdgeTests::bentCostBeyond);
        edge("numbers in brackets come to THE TRACE as often as cost() asks that body", EdgeTests::traceOfCost);
        edge("MISS by a JUDGE (PLAIN at first)", EdgeTests::missIsPlainAtFirst);
        edge("the COST of the size of the difference of its number and THE SUM there", EdgeTests::missOverAndUnder);
    }

    private static void aRound() {
        edge("VOICE by VOICE", EdgeTests::voiceByVoice);
        edge("its TONE numbers, then its TIME numbers", EdgeTests::tonesThenTimes);
        edge("one after the other", EdgeTests::oneAfterTheOther);
        edge("itself, one less, one more", EdgeTests::oneStepAtMost);
        edge("(0 .. 20): not below 0", EdgeTests::notBelowZero);
        edge("(0 .. 20): not above 20", EdgeTests::notAboveTwenty);
        edge("(0 .. 20): 0 and 20 are reached", EdgeTests::edgesAreReached);
        edge("those that are BARRED stay", EdgeTests::barredStayInRounds);
        edge("by which MISS is least", EdgeTests::leastByTheJudge);
        edge("of like ones itself", EdgeTests::ofLikeOnesItself);
        edge("else the lesser one", EdgeTests::elseTheLesserOne);
        edge("BARRED numbers are 0 as they become so, and stay", EdgeTests::barredAreZero);
    }

    private static void shares() {
        edge("v p(k) by P, rounded down", EdgeTests::shareRoundedDown);
        edge("what is left over goes by ones to VOICES in order of what was cut off", EdgeTests::leftOverByOnes);
        edge("the greatest first", EdgeTests::greatestCutFirst);
        edge("of like ones the least VOICE", EdgeTests::likeCutsLeastVoice);
        edge("Where P is 0: all to VOICE 0", EdgeTests::noProductsAllToVoiceZero);
        edge("SHARES of 0, of one VOICE, of the greatest numbers", EdgeTests::shareExtremes);
    }

    private static void theBackground() {
        edge("a period p (1 .. T)", EdgeTests::periodOneToT);
        edge("at all TIMES that differ from t by a multiple of p", EdgeTests::timesInStep);
        edge("the middle one, in order", EdgeTests::middleInOrder);
        edge("of an even number the lower one of both", EdgeTests::lowerOfBoth);
        edge("BEST PERIOD: with the least sum of sizes of differences", EdgeTests::leastSumOfDifferences);
        edge("and p for each TONE", EdgeTests::periodForEachTone);
        edge("BEST PERIOD: of several the least", EdgeTests::ofSeveralPeriodsTheLeast);
        edge("BEST PERIOD of one TIME, and T itself", EdgeTests::periodExtremes);
    }

    private static void rows() {
        edge("ROWS 0, 1", EdgeTests::twoRows);
        edge("up to 8 numbers", EdgeTests::upToEight);
        edge("(-1000 .. 1000)", EdgeTests::soundsWithinThousand);
        edge("of d from -7 to 7", EdgeTests::laterToSeven);
        edge("(where both are)", EdgeTests::whereBothAre);
        edge("LATER: of several the one nearest to 0", EdgeTests::nearestToZero);
        edge("LATER: of two the lesser one", EdgeTests::ofTwoTheLesser);
        edge("ROW 0, filled up with 0 to 8", EdgeTests::filledUpToEight);
        edge("the other way if k and i have an odd number of bits in common", EdgeTests::oddBitsInCommon);
        edge("BACK of it: turned so again, by 8: ROW 0", EdgeTests::backByEight);
    }

    private static void theTruth() {
        edge("TRUTH: a board of numbers for each VOICE (0 at first)", EdgeTests::truthAtFirst);
        edge("an order of VOICES (0 .. K! - 1)", EdgeTests::ordersToFactorial);
        edge("orders as rows of VOICES, from the least on", EdgeTests::ordersFromTheLeast);
        edge("the SHARE of VOICE k and TRUTH of the k-th of that order", EdgeTests::shareAgainstTheKth);
        edge("BEST ORDER: of several the least", EdgeTests::ofSeveralOrdersTheLeast);
    }

    private static void refusals() {
        edge("the first of these: BAD, STATE", EdgeTests::badAheadOfState);
        edge("the first of these: BAD, FULL", EdgeTests::badAheadOfFull);
        edge("Refused, and nothing changes: STATE", EdgeTests::stateChangesNothing);
        edge("Refused, and nothing changes: FULL", EdgeTests::fullChangesNothing);
        edge("there is no such thing", EdgeTests::noSuchThingAfterASmallerBoard);
    }

    private static void promisesOfTheBoard() {
        edge("1: As told", EdgeTests::newObjectIsAsTold);
        edge("2: A new BOARD of 0; K VOICES, all 1", EdgeTests::newBoardIsZero);
        edge("2: none BARRED", EdgeTests::newBoardHasNoneBarred);
        edge("2: TRUTH is 0", EdgeTests::newBoardHasNoTruth);
        edge("2: how many numbers", EdgeTests::howManyNumbers);
        edge("2: the rest stays", EdgeTests::newBoardLeavesTheRest);
        edge("3: becomes v: what it was", EdgeTests::setAnswersWhatItWas);
        edge("4: THE BOARD (0), THE SUM (1), THE BACKGROUND by BEST PERIOD (2)", EdgeTests::atOfEveryKind);
        edge("5: a TONE number (0), a TIME number (1), at place i", EdgeTests::placesOfTonesAndTimes);
        edge("6: It becomes v: what it was. STATE: it is BARRED", EdgeTests::beginAnswersWhatItWas);
        edge("7: BARRED from now on: what it was. STATE: it is already", EdgeTests::barAnswersWhatItWas);
        edge("8: THE JUDGE becomes one of a KIND: what it was", EdgeTests::judgeAnswersWhatItWas);
        edge("9: COST of a difference (0 .. 2000)", EdgeTests::costOfZeroToTwoThousand);
        edge("10: MISS", EdgeTests::leastAndGreatestMiss);
        edge("11: n ROUNDS (1 .. 10): MISS then", EdgeTests::oneToTenRounds);
    }

    private static void promisesOfTheRest() {
        edge("12: SHARE of a VOICE. BAD", EdgeTests::shareOfNoVoice);
        edge("13: THE BACKGROUND by a period. BAD", EdgeTests::backgroundOfNoPlace);
        edge("14: BEST PERIOD", EdgeTests::periodAndWhatItIsBy);
        edge("15: A number comes to a ROW: how many it has; FULL", EdgeTests::hearAnswersHowMany);
        edge("16: A ROW is empty: how many it had", EdgeTests::clearAnswersHowMany);
        edge("17: NONE: a ROW is empty", EdgeTests::laterOfEmptyRows);
        edge("18: BAD is told as -1000000", EdgeTests::turnedTellsBadApart);
        edge("19: A number of TRUTH becomes v (0 .. 99): what it was", EdgeTests::truthAnswersWhatItWas);
        edge("20: APART of an order. BAD", EdgeTests::apartAtItsEnds);
        edge("21: BEST ORDER", EdgeTests::orderIsLeastApart);
        edge("22: 0 F .. 7 ROUNDS ever", EdgeTests::everyCount);
        edge("23: THE TRACE", EdgeTests::theTraceAtItsEnds);
    }

    // ---- helpers

    private static void edge(String words, Runnable test) {
        sentence = words;
        asked = 0;
        test.run();
        CHECKS.holds(words + ": something was asked", asked > 0);
    }

    private static void due(String what, long got, long want) {
        asked++;
        CHECKS.due(sentence + ": " + what, got, want);
    }

    private static void holds(String what, boolean holds) {
        asked++;
        CHECKS.holds(sentence + ": " + what, holds);
    }

    /** A board whose numbers stand here tone by tone. */
    private static VoiceParts boardOf(int f, int t, int k, int... numbers) {
        VoiceParts x = new VoiceParts();
        x.board(f, t, k);
        for (int i = 0; i < numbers.length; i++) {
            x.set(i / t, i % t, numbers[i]);
        }
        return x;
    }

    /** One voice at one tone and one time, with its two numbers. */
    private static VoiceParts single(int board, int tone, int time) {
        VoiceParts x = boardOf(1, 1, 1, board);
        x.begin(0, 0, 0, tone);
        x.begin(0, 1, 0, time);
        return x;
    }

    /** At one tone and one time, voices whose products stand here. */
    private static VoiceParts products(int board, int... products) {
        VoiceParts x = boardOf(1, 1, products.length, board);
        for (int voice = 0; voice < products.length; voice++) {
            x.begin(voice, 0, 0, products[voice]);
        }
        return x;
    }

    private static void sharesAre(VoiceParts x, int... due) {
        for (int voice = 0; voice < due.length; voice++) {
            due("share " + voice, x.share(voice, 0, 0), due[voice]);
        }
    }

    private static VoiceParts heard(int[] row0, int[] row1) {
        VoiceParts x = new VoiceParts();
        for (int v : row0) {
            x.hear(0, v);
        }
        for (int v : row1) {
            x.hear(1, v);
        }
        return x;
    }

    private static int[] row(int... sounds) {
        return sounds;
    }

    private static int laterOf(int[] row0, int[] row1) {
        return heard(row0, row1).later();
    }

    /** Numbers that look like chance and are always the same. */
    private static int scattered(int i, int below) {
        int mixed = (i + 1) * 0x9E3779B1;
        mixed ^= mixed >>> 15;
        mixed *= 0x85EBCA6B;
        return (mixed >>> 8) % below;
    }

    private static VoiceParts scatteredBoard(int seed, int f, int t, int k) {
        VoiceParts x = boardOf(f, t, k);
        for (int i = 0; i < f * t; i++) {
            x.set(i / t, i % t, scattered(1000 * seed + i, 100));
        }
        for (int i = 0; i < k * (f + t); i++) {
            int of = i % (f + t) < f ? 0 : 1;
            x.begin(i / (f + t), of, i % (f + t) - of * f, scattered(1000 * seed + 500 + i, 21));
        }
        return x;
    }

    // ---- what it is

    private static void the512thRound() {
        VoiceParts x = new VoiceParts();
        x.board(6, 8, 3);
        x.judge(BENT);
        for (int call = 3; call <= 511; call++) {
            x.rounds(10);
        }
        due("call 512", x.count(7), 5090);
    }

    private static void the512thOfEveryKind() {
        VoiceParts x = new VoiceParts();
        for (int call = 1; call <= 511; call++) {
            due("cost, call " + call, x.cost(BENT, 2000), 400090);
        }
        due("trace, call 512", x.trace(), 511 * 111);
        x = new VoiceParts();
        for (int call = 1; call <= 511; call++) {
            due("hear, call " + call, x.hear(1, call), call <= 8 ? call : FULL);
        }
        due("clear, call 512", x.clear(1), 8);
        x = new VoiceParts();
        for (int call = 1; call <= 512; call++) {
            due("board, call " + call, x.board(1 + call % 6, 1 + call % 8, 1 + call % 3), (1 + call % 6) * (1 + call % 8));
        }
        x = new VoiceParts();
        for (int call = 1; call <= 512; call++) {
            due("set, call " + call, x.set(3, 3, call % 100), (call - 1) % 100);
        }
    }

    private static void missNeverRises() {
        for (int seed = 0; seed < 60; seed++) {
            VoiceParts x = scatteredBoard(seed, 1 + seed % 6, 1 + seed % 8, 1 + seed % 3);
            x.judge(seed % 3);
            int before = x.miss();
            for (int round = 0; round < 30; round++) {
                int after = x.rounds(1);
                holds(after + " is not above " + before, after <= before);
                due("told by miss() too", x.miss(), after);
                before = after;
            }
        }
    }

    private static void sharesSumExactly() {
        for (int seed = 0; seed < 30; seed++) {
            VoiceParts x = scatteredBoard(seed, 4, 5, 3);
            for (int cell = 0; cell < 20; cell++) {
                int tone = cell / 5;
                int time = cell % 5;
                int sum = x.share(0, tone, time) + x.share(1, tone, time) + x.share(2, tone, time);
                due("sum of shares", sum, x.at(tone, time, 0));
            }
        }
    }

    private static void barredStaysBarred() {
        VoiceParts x = boardOf(2, 2, 2, 99, 99, 99, 99);
        x.bar(1, 0, 1);
        x.rounds(10);
        due("a round does not move it", x.number(1, 0, 1), 0);
        due("begin does not", x.begin(1, 0, 1, 4), STATE);
        due("it is barred once", x.bar(1, 0, 1), STATE);
        x.set(1, 1, 0);
        x.judge(SQUARE);
        x.rounds(10);
        due("still", x.number(1, 0, 1), 0);
        due("one is barred", x.count(4), 1);
    }

    private static void turnedAndBack() {
        for (int size = 0; size <= 8; size++) {
            VoiceParts x = new VoiceParts();
            for (int i = 0; i < size; i++) {
                x.hear(0, scattered(size * 8 + i, 2001) - 1000);
            }
            for (int k = 0; k < 8; k++) {
                due("back " + k + " of " + size, x.turned(k, 1), k < size ? scattered(size * 8 + k, 2001) - 1000 : 0);
            }
        }
    }

    // ---- the board

    private static void oneToSixTones() {
        VoiceParts x = new VoiceParts();
        due("none", x.board(0, 4, 2), BAD);
        due("seven", x.board(7, 4, 2), BAD);
        due("still four", x.count(0), 4);
        due("one", x.board(1, 4, 2), 4);
        due("tone 0 of one", x.set(0, 3, 5), 0);
        due("no tone 1", x.set(1, 3, 5), BAD);
        due("no tone -1", x.set(-1, 3, 5), BAD);
        due("nothing at tone -1", x.at(-1, 3, 0), BAD);
        due("six", x.board(6, 4, 2), 24);
        due("tone 5 of six", x.set(5, 3, 5), 0);
        due("no tone 6", x.set(6, 3, 5), BAD);
        due("tone number 5", x.number(1, 0, 5), 1);
        due("no tone number 6", x.number(1, 0, 6), BAD);
    }

    private static void oneToEightTimes() {
        VoiceParts x = new VoiceParts();
        due("none", x.board(4, 0, 2), BAD);
        due("nine", x.board(4, 9, 2), BAD);
        due("still four", x.count(1), 4);
        due("one", x.board(4, 1, 2), 4);
        due("time 0 of one", x.set(3, 0, 5), 0);
        due("no time 1", x.set(3, 1, 5), BAD);
        due("no time -1", x.set(3, -1, 5), BAD);
        due("nothing at time -1", x.at(3, -1, 0), BAD);
        due("eight", x.board(4, 8, 2), 32);
        due("time 7 of eight", x.set(3, 7, 5), 0);
        due("no time 8", x.set(3, 8, 5), BAD);
        due("time number 7", x.number(1, 1, 7), 1);
        due("no time number 8", x.number(1, 1, 8), BAD);
    }

    private static void fourByFourAtFirst() {
        VoiceParts x = new VoiceParts();
        due("F", x.count(0), 4);
        due("T", x.count(1), 4);
        due("the last", x.at(3, 3, 0), 0);
        due("no tone 4", x.at(4, 3, 0), BAD);
        due("no time 4", x.at(3, 4, 0), BAD);
    }

    private static void numbersOfTheBoard() {
        VoiceParts x = new VoiceParts();
        for (int cell = 0; cell < 16; cell++) {
            due("0 at first", x.at(cell / 4, cell % 4, 0), 0);
        }
        due("below", x.set(2, 1, -1), BAD);
        due("least", x.set(2, 1, 0), 0);
        due("greatest", x.set(2, 1, 99), 0);
        due("above", x.set(2, 1, 100), BAD);
        due("as it was", x.at(2, 1, 0), 99);
    }

    private static void oneToThreeVoices() {
        VoiceParts x = new VoiceParts();
        due("2 at first", x.count(2), 2);
        due("voice 1", x.number(1, 0, 0), 1);
        due("no voice 2", x.number(2, 0, 0), BAD);
        due("none", x.board(4, 4, 0), BAD);
        due("four", x.board(4, 4, 4), BAD);
        due("still two", x.count(2), 2);
        due("three", x.board(4, 4, 3), 16);
        due("voice 2", x.number(2, 1, 3), 1);
        due("no voice 3", x.number(3, 1, 3), BAD);
        due("sum of three", x.at(0, 0, 1), 3);
        due("one", x.board(4, 4, 1), 16);
        due("no voice 1", x.number(1, 0, 0), BAD);
        due("no voice -1", x.number(-1, 0, 0), BAD);
        due("sum of one", x.at(0, 0, 1), 1);
    }

    private static void numbersOfVoices() {
        VoiceParts x = new VoiceParts();
        for (int of = 0; of <= 1; of++) {
            due("1 at first", x.number(1, of, 3), 1);
            due("below", x.begin(1, of, 3, -1), BAD);
            due("above", x.begin(1, of, 3, 21), BAD);
            due("as it was", x.number(1, of, 3), 1);
            due("least", x.begin(1, of, 3, 0), 1);
            due("greatest", x.begin(1, of, 3, 20), 0);
            due("it is so", x.number(1, of, 3), 20);
        }
    }

    private static void leastAndGreatestSum() {
        VoiceParts x = boardOf(2, 2, 3);
        for (int voice = 0; voice < 3; voice++) {
            x.begin(voice, 0, 1, 20);
            x.begin(voice, 1, 1, 20);
        }
        due("greatest", x.at(1, 1, 1), 1200);
        due("by its tone", x.at(1, 0, 1), 60);
        due("by its time", x.at(0, 1, 1), 60);
        due("by neither", x.at(0, 0, 1), 3);
        for (int voice = 0; voice < 3; voice++) {
            x.begin(voice, 1, 1, 0);
        }
        due("least", x.at(1, 1, 1), 0);
    }

    // ---- judges

    private static void threeKinds() {
        VoiceParts x = new VoiceParts();
        due("no kind -1", x.cost(-1, 3), BAD);
        due("plain", x.cost(PLAIN, 3), 3);
        due("square", x.cost(SQUARE, 3), 9);
        due("bent", x.cost(BENT, 20), 130);
        due("no kind 3", x.cost(3, 3), BAD);
        due("no judge -1", x.judge(-1), BAD);
        due("no judge 3", x.judge(3), BAD);
        due("plain still", x.judge(BENT), PLAIN);
    }

    private static void plainCost() {
        VoiceParts x = new VoiceParts();
        due("of 0", x.cost(PLAIN, 0), 0);
        due("of 1", x.cost(PLAIN, 1), 1);
        due("of 101", x.cost(PLAIN, 101), 101);
        due("of -1", x.cost(PLAIN, -1), BAD);
    }

    private static void squareCost() {
        VoiceParts x = new VoiceParts();
        due("of 0", x.cost(SQUARE, 0), 0);
        due("of 1", x.cost(SQUARE, 1), 1);
        due("of 10", x.cost(SQUARE, 10), 100);
        due("of 11", x.cost(SQUARE, 11), 121);
        due("of -1", x.cost(SQUARE, -1), BAD);
    }

    private static void bentCostToHundred() {
        VoiceParts x = new VoiceParts();
        due("of 0", x.cost(BENT, 0), 0);
        due("of 9", x.cost(BENT, 9), 81);
        due("just 100", x.cost(BENT, 10), 100);
    }

    private static void bentCostBeyond() {
        VoiceParts x = new VoiceParts();
        due("121: 90 and 12", x.cost(BENT, 11), 102);
        due("169: 90 and 16", x.cost(BENT, 13), 106);
        due("289: 90 and 28", x.cost(BENT, 17), 118);
        due("400: 90 and 40", x.cost(BENT, 20), 130);
    }

    private static void traceOfCost() {
        VoiceParts x = new VoiceParts();
        due("none at first", x.trace(), 0);
        x.cost(PLAIN, 0);
        due("plain", x.trace(), 1);
        x.cost(SQUARE, 0);
        due("square asks plain", x.trace(), 12);
        x.cost(BENT, 10);
        due("bent asks square once", x.trace(), 123);
        x.cost(BENT, 11);
        due("and once beyond 100", x.trace(), 234);
        x.cost(BENT, 2001);
        x.cost(BENT, -1);
        x.cost(3, 1);
        x.cost(-1, 1);
        due("nothing of what is refused", x.trace(), 234);
        x.judge(BENT);
        x.miss();
        x.rounds(10);
        due("nothing but by cost()", x.trace(), 234);
    }

    private static void missIsPlainAtFirst() {
        VoiceParts x = new VoiceParts();
        x.set(0, 0, 99);
        due("15 times 2, and 97", x.miss(), 127);
        x.judge(SQUARE);
        due("15 times 4, and 97 times 97", x.miss(), 9469);
        x.judge(BENT);
        due("15 times 4, and 90 and 940", x.miss(), 1090);
    }

    private static void missOverAndUnder() {
        due("the sum is over", single(3, 5, 2).miss(), 7);
        due("the sum is under", single(17, 5, 2).miss(), 7);
        due("they are alike", single(10, 5, 2).miss(), 0);
        VoiceParts x = boardOf(1, 2, 1, 0, 2);
        due("sizes do not cancel", x.miss(), 2);
    }

    // ---- a round

    private static void voiceByVoice() {
        // Voice 0 takes all that is missing before voice 1 comes.
        VoiceParts x = boardOf(1, 1, 2, 3);
        due("miss", x.rounds(1), 0);
        due("voice 0", x.number(0, 0, 0), 2);
        due("voice 1", x.number(1, 0, 0), 1);
        // Voice 0's time comes ahead of voice 1's tone.
        x = boardOf(1, 1, 2, 5);
        due("miss", x.rounds(1), 0);
        due("time of voice 0", x.number(0, 1, 0), 2);
        due("tone of voice 1", x.number(1, 0, 0), 1);
        // 2 by 2 and 2 by 2 leave one for the last voice.
        x = boardOf(1, 1, 3, 10);
        due("miss of three", x.rounds(1), 0);
        due("the last voice's tone", x.number(2, 0, 0), 2);
        due("the last voice's time", x.number(2, 1, 0), 1);
    }

    private static void tonesThenTimes() {
        VoiceParts x = single(2, 1, 1);
        due("miss", x.rounds(1), 0);
        due("the tone moves", x.number(0, 0, 0), 2);
        due("the time need not", x.number(0, 1, 0), 1);
    }

    private static void oneAfterTheOther() {
        // The tone's new number 2 is there as the time is asked: 2 times 2.
        VoiceParts x = single(6, 1, 1);
        due("miss", x.rounds(1), 2);
        // All tones come first: at the second one, 3 by 1 becomes 4 by 1, and the time then stays.
        x = boardOf(2, 1, 1, 2, 4);
        x.begin(0, 0, 1, 3);
        due("miss of both", x.rounds(1), 0);
        due("tone 0", x.number(0, 0, 0), 2);
        due("tone 1", x.number(0, 0, 1), 4);
        due("time", x.number(0, 1, 0), 1);
    }

    private static void oneStepAtMost() {
        VoiceParts x = single(99, 1, 1);
        due("up", x.rounds(1), 95);
        due("tone up by one", x.number(0, 0, 0), 2);
        due("time up by one", x.number(0, 1, 0), 2);
        x = single(0, 10, 10);
        due("down", x.rounds(1), 81);
        due("tone down by one", x.number(0, 0, 0), 9);
        due("time down by one", x.number(0, 1, 0), 9);
    }

    private static void notBelowZero() {
        // Voice 0 gets to 9 by 9; voice 1 at -1 by 5 would miss less.
        VoiceParts x = boardOf(1, 1, 2, 0);
        x.begin(0, 0, 0, 10);
        x.begin(0, 1, 0, 10);
        x.begin(1, 0, 0, 0);
        x.begin(1, 1, 0, 5);
        due("miss", x.rounds(1), 81);
        due("tone stays 0", x.number(1, 0, 0), 0);
        x.begin(0, 0, 0, 10);
        x.begin(0, 1, 0, 10);
        x.begin(1, 0, 0, 5);
        x.begin(1, 1, 0, 0);
        due("miss again", x.rounds(1), 81);
        due("time stays 0", x.number(1, 1, 0), 0);
    }

    private static void notAboveTwenty() {
        // 21 by 4 would be nearer to 99 than 20 by 4.
        VoiceParts x = single(99, 20, 4);
        due("miss", x.rounds(1), 1);
        due("tone stays 20", x.number(0, 0, 0), 20);
        due("time goes on", x.number(0, 1, 0), 5);
        x = single(99, 3, 20);
        due("miss by a time", x.rounds(1), 19);
        due("tone goes on", x.number(0, 0, 0), 4);
        due("time stays 20", x.number(0, 1, 0), 20);
    }

    private static void edgesAreReached() {
        VoiceParts x = single(20, 19, 1);
        due("miss at 20", x.rounds(1), 0);
        due("tone 20", x.number(0, 0, 0), 20);
        x = single(40, 1, 19);
        due("miss at 2 by 20", x.rounds(1), 0);
        due("time 20", x.number(0, 1, 0), 20);
        x = single(0, 1, 7);
        due("miss at 0", x.rounds(1), 0);
        due("tone 0", x.number(0, 0, 0), 0);
        due("time as it was, all three miss alike", x.number(0, 1, 0), 7);
        x = boardOf(2, 1, 1, 0, 0);
        x.begin(0, 0, 0, 2);
        x.begin(0, 0, 1, 2);
        due("miss at a time of 0", x.rounds(1), 0);
        due("time 0", x.number(0, 1, 0), 0);
    }

    private static void barredStayInRounds() {
        VoiceParts x = single(50, 4, 6);
        x.bar(0, 0, 0);
        due("a barred tone", x.rounds(10), 50);
        due("it stays 0", x.number(0, 0, 0), 0);
        due("the other one does not move", x.number(0, 1, 0), 6);
        x = single(50, 4, 6);
        x.bar(0, 1, 0);
        due("a barred time", x.rounds(10), 50);
        due("the time stays 0", x.number(0, 1, 0), 0);
        // Only what is barred stays: voice 1 alone gets to 7 by 7.
        x = boardOf(1, 1, 2, 49);
        x.bar(0, 0, 0);
        due("another voice moves", x.rounds(10), 0);
    }

    private static void leastByTheJudge() {
        // At 2, 3, 4 over three times of 1: PLAIN misses 11, 12, 13; SQUARE 57, 54, 57.
        VoiceParts x = boardOf(1, 3, 1, 0, 0, 9);
        x.begin(0, 0, 0, 3);
        x.rounds(1);
        due("by PLAIN", x.number(0, 0, 0), 2);
        x = boardOf(1, 3, 1, 0, 0, 9);
        x.begin(0, 0, 0, 3);
        x.judge(SQUARE);
        x.rounds(1);
        due("by SQUARE", x.number(0, 0, 0), 3);
        // At 7, 8, 9: SQUARE misses 8562, 8409, 8262; BENT, to whom the far one is less, 1034, 1046, 1062.
        x = boardOf(1, 3, 1, 0, 0, 99);
        x.begin(0, 0, 0, 8);
        x.judge(SQUARE);
        x.rounds(1);
        due("by SQUARE, far", x.number(0, 0, 0), 9);
        x = boardOf(1, 3, 1, 0, 0, 99);
        x.begin(0, 0, 0, 8);
        x.judge(BENT);
        x.rounds(1);
        due("by BENT, far", x.number(0, 0, 0), 7);
    }

    private static void ofLikeOnesItself() {
        // 3 misses 0 and 1, 4 misses 1 and 0: whichever it is stays.
        for (int itself = 3; itself <= 4; itself++) {
            VoiceParts x = boardOf(1, 2, 1, 3, 4);
            x.begin(0, 0, 0, itself);
            due("miss", x.rounds(1), 1);
            due("itself", x.number(0, 0, 0), itself);
        }
        // The same for a time, whose tones 1 and 1 may not move: they miss alike too.
        for (int itself = 3; itself <= 4; itself++) {
            VoiceParts x = boardOf(2, 1, 1, 3, 4);
            x.begin(0, 1, 0, itself);
            due("miss by a time", x.rounds(1), 1);
            due("itself, a time", x.number(0, 1, 0), itself);
        }
        VoiceParts x = single(9, 0, 0);
        due("all three alike", x.rounds(1), 9);
        due("tone itself", x.number(0, 0, 0), 0);
        due("time itself", x.number(0, 1, 0), 0);
    }

    private static void elseTheLesserOne() {
        // BENT at 50 and 50 misses 104 and 104; at 45 or 55 it misses 118 and 49.
        VoiceParts x = boardOf(1, 2, 1, 62, 38);
        x.judge(BENT);
        x.begin(0, 0, 0, 10);
        x.begin(0, 1, 0, 5);
        x.begin(0, 1, 1, 5);
        x.rounds(1);
        due("a tone", x.number(0, 0, 0), 9);
        // The tones come to 5 and 5 first, and then the time is asked as above.
        x = boardOf(2, 1, 1, 62, 38);
        x.judge(BENT);
        x.begin(0, 0, 0, 4);
        x.begin(0, 0, 1, 6);
        x.begin(0, 1, 0, 10);
        due("miss", x.rounds(1), 167);
        due("a time", x.number(0, 1, 0), 9);
    }

    private static void barredAreZero() {
        VoiceParts x = boardOf(2, 3, 2);
        x.begin(0, 0, 1, 20);
        due("a tone was", x.bar(0, 0, 1), 20);
        due("a tone is", x.number(0, 0, 1), 0);
        due("a time was", x.bar(1, 1, 2), 1);
        due("a time is", x.number(1, 1, 2), 0);
        due("the sum without both", x.at(1, 2, 1), 0);
        due("the sum without one", x.at(1, 1, 1), 1);
        x.begin(0, 1, 0, 0);
        due("what is 0 can be barred", x.bar(0, 1, 0), 0);
        due("and is", x.begin(0, 1, 0, 1), STATE);
        due("three are", x.count(4), 3);
    }

    // ---- shares

    private static void shareRoundedDown() {
        // 99 by 20 of 21 is 94.28, and what is left over goes to the other one.
        sharesAre(products(99, 20, 1), 94, 5);
        // 10 by 2, 3 and 5: nothing is cut off.
        sharesAre(products(10, 2, 3, 5), 2, 3, 5);
    }

    private static void leftOverByOnes() {
        // 5 by 1, 1, 1: 1.67 each, two are left over.
        sharesAre(products(5, 1, 1, 1), 2, 2, 1);
        // 4 by 1, 1, 1: 1.33 each, one is left over.
        sharesAre(products(4, 1, 1, 1), 2, 1, 1);
        // 1 by 1, 1: one is left over.
        sharesAre(products(1, 1, 1), 1, 0);
    }

    private static void greatestCutFirst() {
        // 10 by 1, 2, 4 of 7: 1.43, 2.86, 5.71: two are left over.
        sharesAre(products(10, 1, 2, 4), 1, 3, 6);
        // 1 by 1, 2: 0.33, 0.67.
        sharesAre(products(1, 1, 2), 0, 1);
        // 10 by 3, 4, 2 of 9: 3.33, 4.44, 2.22: one is left over.
        sharesAre(products(10, 3, 4, 2), 3, 5, 2);
        // 3 by 1, 1, 5 of 7: 0.43, 0.43, 2.14.
        sharesAre(products(3, 5, 1, 1), 2, 1, 0);
    }

    private static void likeCutsLeastVoice() {
        // 3 by 5, 1, 1 told above; turned about, voices 1 and 2, 0 and 2, 0 and 1 are alike.
        sharesAre(products(3, 1, 5, 1), 1, 2, 0);
        sharesAre(products(3, 1, 1, 5), 1, 0, 2);
        // 2 by 1, 1, 1: 0.67 each, the least two.
        sharesAre(products(2, 1, 1, 1), 1, 1, 0);
        sharesAre(products(7, 3, 3), 4, 3);
    }

    private static void noProductsAllToVoiceZero() {
        sharesAre(products(42, 0, 0, 0), 42, 0, 0);
        sharesAre(products(42, 0), 42);
        VoiceParts x = boardOf(1, 1, 2, 42);
        x.bar(0, 0, 0);
        sharesAre(x, 0, 42);
        x.bar(1, 1, 0);
        sharesAre(x, 42, 0);
    }

    private static void shareExtremes() {
        sharesAre(products(0, 3, 2, 1), 0, 0, 0);
        sharesAre(products(0, 0, 0, 0), 0, 0, 0);
        sharesAre(products(99, 1), 99);
        sharesAre(products(99, 0, 0, 1), 0, 0, 99);
        VoiceParts x = products(98, 20, 20, 20);
        for (int voice = 0; voice < 3; voice++) {
            x.begin(voice, 1, 0, 20);
        }
        sharesAre(x, 33, 33, 32);
    }

    // ---- the background

    private static void periodOneToT() {
        VoiceParts x = boardOf(2, 3, 1, 7, 8, 9);
        due("0", x.background(0, 0, 2), BAD);
        due("1", x.background(1, 0, 2), 8);
        due("3", x.background(3, 0, 2), 9);
        due("4", x.background(4, 0, 2), BAD);
        x.board(2, 8, 1);
        x.set(1, 7, 6);
        due("8 of 8", x.background(8, 1, 7), 6);
        due("9 of 8", x.background(9, 1, 7), BAD);
        x.board(2, 1, 1);
        x.set(1, 0, 6);
        due("1 of 1", x.background(1, 1, 0), 6);
        due("2 of 1", x.background(2, 1, 0), BAD);
    }

    private static void timesInStep() {
        VoiceParts x = boardOf(1, 8, 1, 10, 20, 30, 40, 50, 60, 70, 80);
        // By 3: TIMES 0 3 6, 1 4 7, 2 5; earlier ones count as later ones do.
        int[] byThree = {40, 50, 30, 40, 50, 30, 40, 50};
        // By 7: only TIMES 0 and 7 are in step.
        int[] bySeven = {10, 20, 30, 40, 50, 60, 70, 10};
        for (int time = 0; time < 8; time++) {
            due("by 3 at " + time, x.background(3, 0, time), byThree[time]);
            due("by 7 at " + time, x.background(7, 0, time), bySeven[time]);
            due("by 8 at " + time, x.background(8, 0, time), 10 * (time + 1));
        }
    }

    private static void middleInOrder() {
        VoiceParts x = boardOf(2, 5, 1, 99, 3, 50, 0, 7, 1, 1, 1, 9, 9);
        for (int time = 0; time < 5; time++) {
            due("of 0 3 7 50 99", x.background(1, 0, time), 7);
            due("of 1 1 1 9 9", x.background(1, 1, time), 1);
        }
    }

    private static void lowerOfBoth() {
        VoiceParts x = boardOf(1, 4, 1, 8, 2, 6, 4);
        due("of 2 4 6 8", x.background(1, 0, 0), 4);
        due("of 6 8", x.background(2, 0, 0), 6);
        due("of 2 4", x.background(2, 0, 3), 2);
        due("of one", x.background(3, 0, 1), 2);
        due("of 0 99", boardOf(1, 2, 1, 99, 0).background(1, 0, 0), 0);
    }

    private static void leastSumOfDifferences() {
        due("9 1 by 2", boardOf(1, 8, 1, 9, 1, 9, 1, 9, 1, 9, 1).period(), 2);
        due("1 5 9 by 3", boardOf(1, 8, 1, 1, 5, 9, 1, 5, 9, 1, 5).period(), 3);
        due("the first TIME counts", boardOf(1, 2, 1, 9, 0).period(), 2);
        due("the last TIME counts", boardOf(1, 2, 1, 0, 9).period(), 2);
        due("the last TONE counts", boardOf(2, 2, 1, 3, 3, 0, 9).period(), 2);
        // By 1: 1 and 29; by 2: 2 and 3; by 6: 6; by 4: 4 and 3; by 8: 8.
        due("one is off", boardOf(1, 8, 1, 9, 1, 9, 1, 9, 4, 9, 1).period(), 2);
    }

    private static void periodForEachTone() {
        // By 1: 3, or 4 with a second tone that is not off, or 6 with one that is; by 2: 2, or 4.
        due("one tone", boardOf(1, 2, 1, 7, 9).period(), 2);
        due("two tones", boardOf(2, 2, 1, 7, 9, 5, 5).period(), 1);
        due("two tones, both off", boardOf(2, 2, 1, 7, 9, 5, 7).period(), 2);
    }

    private static void ofSeveralPeriodsTheLeast() {
        // By 1: 1 and 1; by 2: 2.
        due("1 of 1 and 2", boardOf(1, 2, 1, 7, 8).period(), 1);
        // By 1: 1 and 8; by 2: 2 and 1; by 3: 3.
        due("2 of 2 and 3", boardOf(1, 3, 1, 9, 1, 8).period(), 2);
        due("all 0", boardOf(6, 8, 3).period(), 1);
    }

    private static void periodExtremes() {
        due("one time", boardOf(6, 1, 1, 1, 2, 3, 4, 5, 6).period(), 1);
        VoiceParts x = boardOf(1, 8, 1, 0, 20, 40, 60, 80, 99, 30, 50);
        due("T itself", x.period(), 8);
        due("each number is its own background", x.at(0, 7, 2), 50);
    }

    // ---- rows

    private static void twoRows() {
        VoiceParts x = new VoiceParts();
        due("no row -1", x.hear(-1, 5), BAD);
        due("row 0", x.hear(0, 5), 1);
        due("row 1", x.hear(1, 5), 1);
        due("no row 2", x.hear(2, 5), BAD);
        due("none to clear at -1", x.clear(-1), BAD);
        due("none to clear at 2", x.clear(2), BAD);
        due("row 0 has", x.count(5), 1);
        due("row 1 has", x.count(6), 1);
    }

    private static void upToEight() {
        for (int row = 0; row <= 1; row++) {
            VoiceParts x = new VoiceParts();
            for (int n = 1; n <= 8; n++) {
                due("number " + n, x.hear(row, n), n);
            }
            due("a ninth", x.hear(row, 9), FULL);
            due("the other row is not full", x.hear(1 - row, 9), 1);
        }
    }

    private static void soundsWithinThousand() {
        VoiceParts x = new VoiceParts();
        due("below", x.hear(0, -1001), BAD);
        due("least", x.hear(0, -1000), 1);
        due("greatest", x.hear(0, 1000), 2);
        due("above", x.hear(0, 1001), BAD);
        due("least is kept", x.turned(0, 1), -1000);
        due("greatest is kept", x.turned(1, 1), 1000);
        due("no more are", x.count(5), 2);
    }

    private static void laterToSeven() {
        int[] last = row(0, 0, 0, 0, 0, 0, 0, 9);
        due("7", laterOf(row(9), last), 7);
        due("-7", laterOf(last, row(9)), -7);
        due("6", laterOf(row(0, 9), last), 6);
        due("-6", laterOf(last, row(0, 9)), -6);
        int[] ups = row(1, 1, 1, 1, 1, 1, 1, 1);
        int[] downs = row(-1, -1, -1, -1, -1, -1, -1, -1);
        due("none beyond 7, where nothing would meet", laterOf(ups, downs), -7);
        due("eight alike", laterOf(ups, ups), 0);
    }

    private static void whereBothAre() {
        // Were the old 2, 1 still behind 0, 7, then -1 would sum to 29, and -2 to 28.
        VoiceParts x = heard(row(1, 2, 3, 4), row(4, 3, 2, 1));
        x.clear(1);
        x.hear(1, 0);
        x.hear(1, 7);
        due("nothing old of row 1", x.later(), -2);
        x = heard(row(1, 2, 3, 4), row(0, 7));
        x.clear(0);
        x.hear(0, 2);
        due("nothing old of row 0", x.later(), 1);
        // Ahead of row 1 there is nothing either: 5 meets 1 at -7 alone.
        due("ahead of a row", laterOf(row(1, 0, 0, 0, 0, 0, 0, 5), row(1)), -7);
        due("a d at which none meet sums to 0", laterOf(row(3), row(-3)), -1);
        due("rows of unlike sizes", laterOf(row(5), row(1, 2, 9, 2, 1)), 2);
    }

    private static void nearestToZero() {
        due("of all 0", laterOf(row(0, 0, 0), row(5, 5)), 0);
        due("of 2 and -1", laterOf(row(1, 0, 0, 1), row(0, 0, 1)), -1);
        due("of -2 and 1", laterOf(row(0, 0, 1), row(1, 0, 0, 1)), 1);
        due("of 3 and 2", laterOf(row(1, 1), row(0, 0, 0, 1)), 2);
        due("of -3 and -2", laterOf(row(0, 0, 0, 1), row(1, 1)), -2);
    }

    private static void ofTwoTheLesser() {
        due("-1 and 1", laterOf(row(1, 0, 1), row(0, 1)), -1);
        due("-2 and 2", laterOf(row(1, 0, 0, 0, 1), row(0, 0, 1)), -2);
        due("-1 and 1, great ones", laterOf(row(1000, -1000), row(-1000, 1000)), -1);
    }

    private static void filledUpToEight() {
        VoiceParts x = new VoiceParts();
        for (int k = 0; k < 8; k++) {
            due("empty, turned", x.turned(k, 0), 0);
            due("empty, back", x.turned(k, 1), 0);
        }
        x.hear(0, 6);
        x.hear(1, 99);
        for (int k = 0; k < 8; k++) {
            due("one, turned", x.turned(k, 0), 6);
            due("one, back", x.turned(k, 1), k == 0 ? 6 : 0);
        }
        x = heard(row(1, 2, 3, 4, 5, 6, 7, 8), row());
        x.clear(0);
        x.hear(0, -4);
        for (int k = 0; k < 8; k++) {
            due("what was there is 0 again", x.turned(k, 0), -4);
        }
    }

    private static void oddBitsInCommon() {
        // Row 0 has one sound at i: number k is it, or it the other way.
        int[][] ways = {{1, 1, 1, 1, 1, 1, 1, 1}, {1, -1, 1, -1, 1, -1, 1, -1}, {1, 1, -1, -1, 1, 1, -1, -1},
            {1, -1, -1, 1, 1, -1, -1, 1}, {1, 1, 1, 1, -1, -1, -1, -1}, {1, -1, 1, -1, -1, 1, -1, 1},
            {1, 1, -1, -1, -1, -1, 1, 1}, {1, -1, -1, 1, -1, 1, 1, -1}};
        for (int i = 0; i < 8; i++) {
            int[] sounds = new int[i + 1];
            sounds[i] = 10;
            VoiceParts x = heard(sounds, row());
            for (int k = 0; k < 8; k++) {
                due(k + " and " + i, x.turned(k, 0), 10 * ways[i][k]);
            }
        }
    }

    private static void backByEight() {
        int[] sounds = row(1000, -1000, 999, -999, 1, -1, 0, -7);
        VoiceParts x = heard(sounds, row(5));
        for (int k = 0; k < 8; k++) {
            due("back " + k, x.turned(k, 1), sounds[k]);
        }
        int[] greatest = new int[8];
        Arrays.fill(greatest, -1000);
        x = heard(greatest, row());
        due("least of turned", x.turned(0, 0), -8000);
        due("and back", x.turned(7, 1), -1000);
    }

    // ---- the truth

    private static void truthAtFirst() {
        VoiceParts x = new VoiceParts();
        for (int place = 0; place < 32; place++) {
            due("of voice " + place / 16, x.truth(place / 16, place % 16 / 4, place % 4, 50), 0);
        }
        due("no voice 2", x.truth(2, 0, 0, 50), BAD);
        due("each has its own", x.truth(0, 3, 3, 0), 50);
        due("another voice's", x.truth(1, 3, 3, 0), 50);
    }

    private static void ordersToFactorial() {
        int[] lasts = {0, 1, 5};
        for (int k = 1; k <= 3; k++) {
            VoiceParts x = boardOf(1, 1, k, 6);
            due("-1 of " + k, x.apart(-1), BAD);
            due("the first of " + k, x.apart(0), 6);
            due("the last of " + k, x.apart(lasts[k - 1]), 6);
            due("one more of " + k, x.apart(lasts[k - 1] + 1), BAD);
        }
    }

    private static void ordersFromTheLeast() {
        int[][] orders = {{0, 1, 2}, {0, 2, 1}, {1, 0, 2}, {1, 2, 0}, {2, 0, 1}, {2, 1, 0}};
        for (int order = 0; order < 6; order++) {
            VoiceParts x = boardOf(1, 1, 3, 60);
            x.begin(1, 0, 0, 2);
            x.begin(2, 0, 0, 3);
            // Shares 10, 20, 30: the truth has them at the voices of this order.
            for (int k = 0; k < 3; k++) {
                x.truth(orders[order][k], 0, 0, 10 * (k + 1));
            }
            due("nothing apart in " + order, x.apart(order), 0);
            due("the best is " + order, x.order(), order);
        }
        VoiceParts x = boardOf(1, 1, 2, 30);
        x.begin(1, 0, 0, 2);
        x.truth(0, 0, 0, 20);
        x.truth(1, 0, 0, 10);
        due("of two, as they are", x.apart(0), 20);
        due("of two, the other way", x.apart(1), 0);
        due("the best of two", x.order(), 1);
    }

    private static void shareAgainstTheKth() {
        // Order 3 is 1 2 0: shares 10 20 30 against truths 1 2 0, here 5 70 1: 5 and 50 and 29.
        VoiceParts x = boardOf(1, 1, 3, 60);
        x.begin(1, 0, 0, 2);
        x.begin(2, 0, 0, 3);
        x.truth(1, 0, 0, 5);
        x.truth(2, 0, 0, 70);
        x.truth(0, 0, 0, 1);
        due("1 2 0", x.apart(3), 84);
        // 2 0 1: 60 and 19 and 25.
        due("2 0 1", x.apart(4), 104);
        // All of the board counts, to its last tone and time.
        x = boardOf(6, 8, 1);
        x.truth(0, 5, 7, 99);
        x.truth(0, 0, 0, 1);
        due("first and last", x.apart(0), 100);
    }

    private static void ofSeveralOrdersTheLeast() {
        VoiceParts x = boardOf(1, 1, 3, 60);
        due("all alike", x.order(), 0);
        // Shares 20 20 20: wherever the 60 is, all orders are alike.
        x.truth(2, 0, 0, 60);
        due("still all alike", x.order(), 0);
        // Shares 0 0 60 and the truth's 60 at voice 0: the last of the order is 0, as in 1 2 0 and 2 1 0.
        x.begin(0, 0, 0, 0);
        x.begin(1, 0, 0, 0);
        x.truth(2, 0, 0, 0);
        x.truth(0, 0, 0, 60);
        due("3 of 3 and 5", x.order(), 3);
        due("one voice", boardOf(1, 1, 1, 60).order(), 0);
        due("two alike", boardOf(1, 1, 2, 60).order(), 0);
    }

    // ---- refusals

    private static void badAheadOfState() {
        VoiceParts x = boardOf(2, 2, 1);
        x.bar(0, 1, 1);
        due("state alone", x.begin(0, 1, 1, 20), STATE);
        due("above", x.begin(0, 1, 1, 21), BAD);
        due("below", x.begin(0, 1, 1, -1), BAD);
        due("bar: state alone", x.bar(0, 1, 1), STATE);
        due("bar: no such place", x.bar(0, 1, 2), BAD);
    }

    private static void badAheadOfFull() {
        VoiceParts x = heard(row(1, 2, 3, 4, 5, 6, 7, 8), row(1, 2, 3, 4, 5, 6, 7, 8));
        due("full alone", x.hear(0, 1000), FULL);
        due("above", x.hear(0, 1001), BAD);
        due("below", x.hear(1, -1001), BAD);
        due("no such row", x.hear(2, 1), BAD);
    }

    private static void stateChangesNothing() {
        VoiceParts x = boardOf(2, 2, 1);
        x.bar(0, 1, 1);
        x.begin(0, 1, 1, 20);
        due("still 0", x.number(0, 1, 1), 0);
        x.bar(0, 1, 1);
        due("still one", x.count(4), 1);
        due("its neighbour is as it was", x.number(0, 1, 0), 1);
        due("and free", x.begin(0, 1, 0, 20), 1);
    }

    private static void fullChangesNothing() {
        VoiceParts x = heard(row(1, 2, 3, 4, 5, 6, 7, 8), row(9));
        x.hear(0, -77);
        due("still eight", x.count(5), 8);
        for (int k = 0; k < 8; k++) {
            due("number " + k, x.turned(k, 1), k + 1);
        }
        // 9 meets 8 at -7; were it -77, then a d at which none meet would be greater.
        due("row 1 is as it was", x.later(), -7);
    }

    private static void noSuchThingAfterASmallerBoard() {
        VoiceParts x = boardOf(6, 8, 3);
        x.board(1, 1, 1);
        due("at a tone", x.at(1, 0, 0), BAD);
        due("at a time", x.at(0, 1, 0), BAD);
        due("set", x.set(5, 7, 1), BAD);
        due("number of a voice", x.number(1, 0, 0), BAD);
        due("number of a tone", x.number(0, 0, 1), BAD);
        due("number of a time", x.number(0, 1, 1), BAD);
        due("begin", x.begin(0, 0, 5, 1), BAD);
        due("bar", x.bar(0, 1, 7), BAD);
        due("share", x.share(1, 0, 0), BAD);
        due("background", x.background(2, 0, 0), BAD);
        due("truth", x.truth(1, 0, 0, 1), BAD);
        due("apart", x.apart(1), BAD);
        due("miss of one place", x.miss(), 1);
    }

    // ---- promises of the board

    private static void newObjectIsAsTold() {
        VoiceParts x = new VoiceParts();
        int[] counts = {4, 4, 2, PLAIN, 0, 0, 0, 0};
        for (int what = 0; what < 8; what++) {
            due("count " + what, x.count(what), counts[what]);
        }
        due("miss", x.miss(), 32);
        due("period", x.period(), 1);
        due("order", x.order(), 0);
        due("apart", x.apart(1), 0);
        due("later", x.later(), NONE);
        due("trace", x.trace(), 0);
        x.board(6, 8, 3);
        x.judge(BENT);
        x.hear(0, 7);
        x.cost(BENT, 7);
        VoiceParts y = new VoiceParts();
        due("its own board", y.count(0), 4);
        due("its own judge", y.count(3), PLAIN);
        due("its own row", y.count(5), 0);
        due("its own trace", y.trace(), 0);
    }

    private static void newBoardIsZero() {
        VoiceParts x = boardOf(3, 3, 2, 9, 8, 7, 6, 5, 4, 3, 2, 1);
        x.begin(1, 0, 2, 20);
        x.begin(0, 1, 2, 0);
        x.board(3, 3, 2);
        due("first", x.at(0, 0, 0), 0);
        due("last", x.at(2, 2, 0), 0);
        due("a tone", x.number(1, 0, 2), 1);
        due("a time", x.number(0, 1, 2), 1);
        due("all of it", x.miss(), 18);
    }

    private static void newBoardHasNoneBarred() {
        VoiceParts x = boardOf(6, 8, 3);
        x.bar(2, 1, 7);
        x.bar(0, 0, 0);
        x.board(1, 1, 1);
        due("none", x.count(4), 0);
        due("the first is free", x.begin(0, 0, 0, 7), 1);
        x.board(6, 8, 3);
        due("the last is free", x.begin(2, 1, 7, 7), 1);
        due("and can be barred", x.bar(2, 1, 7), 7);
    }

    private static void newBoardHasNoTruth() {
        VoiceParts x = boardOf(6, 8, 3);
        x.truth(2, 5, 7, 99);
        x.truth(0, 0, 0, 99);
        x.board(1, 1, 1);
        due("first", x.truth(0, 0, 0, 0), 0);
        due("nothing apart", x.apart(0), 0);
        x.board(6, 8, 3);
        due("last", x.truth(2, 5, 7, 0), 0);
    }

    private static void howManyNumbers() {
        VoiceParts x = new VoiceParts();
        due("least", x.board(1, 1, 1), 1);
        due("greatest", x.board(6, 8, 3), 48);
        due("not by voices", x.board(6, 8, 1), 48);
        due("tones times times", x.board(5, 3, 2), 15);
    }

    private static void newBoardLeavesTheRest() {
        VoiceParts x = heard(row(1, 2), row(3));
        x.judge(BENT);
        x.rounds(3);
        x.cost(SQUARE, 1);
        x.board(6, 8, 3);
        due("the judge", x.count(3), BENT);
        due("row 0", x.count(5), 2);
        due("row 1", x.count(6), 1);
        due("rounds ever", x.count(7), 3);
        due("the trace", x.trace(), 11);
    }

    private static void setAnswersWhatItWas() {
        VoiceParts x = boardOf(2, 2, 1);
        due("0", x.set(1, 0, 99), 0);
        due("99", x.set(1, 0, 99), 99);
        due("99 again", x.set(1, 0, 0), 99);
        due("its neighbours", x.at(0, 1, 0) + x.at(1, 1, 0) + x.at(0, 0, 0), 0);
    }

    private static void atOfEveryKind() {
        VoiceParts x = boardOf(1, 3, 2, 5, 6, 5);
        due("-1", x.at(0, 1, -1), BAD);
        due("0", x.at(0, 1, 0), 6);
        due("1", x.at(0, 1, 1), 2);
        // By 1: 1 and 1; by 2: 2; the least is 1, whose background is 5.
        due("2", x.at(0, 1, 2), 5);
        due("3", x.at(0, 1, 3), BAD);
        x.set(0, 1, 8);
        due("2, by 2", x.at(0, 1, 2), 8);
    }

    private static void placesOfTonesAndTimes() {
        VoiceParts x = boardOf(2, 5, 2);
        x.begin(1, 0, 1, 11);
        x.begin(1, 1, 1, 12);
        x.begin(1, 1, 4, 13);
        due("tone 1", x.number(1, 0, 1), 11);
        due("time 1", x.number(1, 1, 1), 12);
        due("no tone 2", x.number(1, 0, 2), BAD);
        due("time 4", x.number(1, 1, 4), 13);
        due("no time 5", x.number(1, 1, 5), BAD);
        due("no place -1", x.number(1, 1, -1), BAD);
        due("of -1", x.number(1, -1, 1), BAD);
        due("of 2", x.number(1, 2, 1), BAD);
        due("voice 0 is as it was", x.number(0, 1, 4), 1);
    }

    private static void beginAnswersWhatItWas() {
        VoiceParts x = boardOf(2, 2, 1);
        due("1", x.begin(0, 0, 1, 20), 1);
        due("20", x.begin(0, 0, 1, 20), 20);
        due("20 again", x.begin(0, 0, 1, 0), 20);
        due("0", x.begin(0, 0, 1, 0), 0);
        x.bar(0, 0, 1);
        due("barred, though it is 0 and stays so", x.begin(0, 0, 1, 0), STATE);
    }

    private static void barAnswersWhatItWas() {
        VoiceParts x = boardOf(6, 8, 3);
        x.begin(2, 1, 7, 20);
        due("the last", x.bar(2, 1, 7), 20);
        due("already", x.bar(2, 1, 7), STATE);
        due("the first", x.bar(0, 0, 0), 1);
        due("already too", x.bar(0, 0, 0), STATE);
        int barred = 2;
        for (int place = 1; place < 41; place++) {
            int i = place % 14;
            due("place " + place, x.bar(place / 14, i < 6 ? 0 : 1, i < 6 ? i : i - 6), 1);
            barred++;
        }
        due("all are", x.count(4), barred);
        due("42 of them", barred, 42);
        due("no sum is left", x.miss(), 0);
    }

    private static void judgeAnswersWhatItWas() {
        VoiceParts x = new VoiceParts();
        due("at first", x.judge(BENT), PLAIN);
        due("then", x.judge(BENT), BENT);
        due("then", x.judge(SQUARE), BENT);
        due("then", x.judge(PLAIN), SQUARE);
        due("refused", x.judge(3), BAD);
        due("as it was", x.count(3), PLAIN);
    }

    private static void costOfZeroToTwoThousand() {
        VoiceParts x = new VoiceParts();
        int[] greatest = {2000, 4000000, 400090};
        for (int kind = PLAIN; kind <= BENT; kind++) {
            due("below", x.cost(kind, -1), BAD);
            due("least", x.cost(kind, 0), 0);
            due("greatest", x.cost(kind, 2000), greatest[kind]);
            due("above", x.cost(kind, 2001), BAD);
        }
        due("whatever the judge is", x.count(3), PLAIN);
    }

    private static void leastAndGreatestMiss() {
        VoiceParts x = boardOf(6, 8, 3);
        for (int place = 0; place < 42; place++) {
            int i = place % 14;
            x.begin(place / 14, i < 6 ? 0 : 1, i < 6 ? i : i - 6, 20);
        }
        due("PLAIN", x.miss(), 48 * 1200);
        x.judge(SQUARE);
        due("SQUARE", x.miss(), 48 * 1440000);
        x.judge(BENT);
        due("BENT", x.miss(), 48 * 144090);
        due("least", single(99, 11, 9).miss(), 0);
    }

    private static void oneToTenRounds() {
        VoiceParts x = scatteredBoard(7, 3, 4, 2);
        VoiceParts y = scatteredBoard(7, 3, 4, 2);
        due("none", x.rounds(0), BAD);
        due("eleven", x.rounds(11), BAD);
        due("none ever", x.count(7), 0);
        int one = 0;
        for (int round = 1; round <= 10; round++) {
            one = x.rounds(1);
            due("ever", x.count(7), round);
        }
        due("ten at once", y.rounds(10), one);
        due("miss then", y.miss(), one);
        due("ten ever", y.count(7), 10);
        for (int i = 0; i < 4; i++) {
            due("the same numbers", y.number(1, 1, i), x.number(1, 1, i));
        }
        // A round in which nothing moves is a round.
        VoiceParts still = single(1, 1, 1);
        due("nothing to do", still.rounds(10), 0);
        due("ten of them", still.count(7), 10);
    }

    // ---- promises of the rest

    private static void shareOfNoVoice() {
        VoiceParts x = boardOf(2, 3, 2, 0, 0, 0, 0, 0, 9);
        due("voice -1", x.share(-1, 1, 2), BAD);
        due("voice 0", x.share(0, 1, 2), 5);
        due("voice 1", x.share(1, 1, 2), 4);
        due("voice 2", x.share(2, 1, 2), BAD);
        due("tone 2", x.share(0, 2, 2), BAD);
        due("time 3", x.share(0, 1, 3), BAD);
        due("asking does not change it", x.share(0, 1, 2), 5);
    }

    private static void backgroundOfNoPlace() {
        VoiceParts x = boardOf(2, 3, 1, 0, 0, 0, 4, 5, 9);
        due("tone -1", x.background(1, -1, 0), BAD);
        due("tone 2", x.background(1, 2, 0), BAD);
        due("time -1", x.background(1, 0, -1), BAD);
        due("time 3", x.background(1, 0, 3), BAD);
        due("the last of both", x.background(2, 1, 2), 4);
    }

    private static void periodAndWhatItIsBy() {
        VoiceParts x = boardOf(1, 4, 1, 2, 8, 2, 8);
        due("by 2", x.period(), 2);
        for (int time = 0; time < 4; time++) {
            due("at() takes it", x.at(0, time, 2), x.background(2, 0, time));
        }
        x.begin(0, 0, 0, 20);
        x.judge(BENT);
        due("voices and judges are nothing to it", x.period(), 2);
    }

    private static void apartAtItsEnds() {
        VoiceParts x = boardOf(6, 8, 3);
        due("nothing against nothing", x.apart(5), 0);
        for (int place = 0; place < 144; place++) {
            x.truth(place / 48, place % 48 / 8, place % 8, 99);
        }
        due("the greatest: nothing against 99 everywhere", x.apart(0), 144 * 99);
        due("in every order", x.apart(5), 144 * 99);
        due("order 6", x.apart(6), BAD);
        due("order -1", x.apart(-1), BAD);
    }

    private static void orderIsLeastApart() {
        for (int seed = 0; seed < 40; seed++) {
            int k = 1 + seed % 3;
            VoiceParts x = scatteredBoard(seed, 3, 4, k);
            for (int place = 0; place < 12 * k; place++) {
                x.truth(place / 12, place % 12 / 4, place % 4, scattered(7000 + 100 * seed + place, 100));
            }
            int best = x.order();
            for (int order = 0; order < (k == 3 ? 6 : k); order++) {
                int more = x.apart(order) - x.apart(best);
                holds(order + " is not before " + best, order < best ? more > 0 : more >= 0);
            }
        }
    }

    private static void hearAnswersHowMany() {
        VoiceParts x = new VoiceParts();
        for (int n = 1; n <= 8; n++) {
            due("row 1", x.hear(1, 0), n);
        }
        due("full", x.hear(1, 0), FULL);
        x.clear(1);
        due("no longer", x.hear(1, 0), 1);
    }

    private static void clearAnswersHowMany() {
        VoiceParts x = heard(row(1, 2, 3, 4, 5, 6, 7, 8), row(1));
        due("eight", x.clear(0), 8);
        due("none", x.clear(0), 0);
        due("one", x.clear(1), 1);
        due("none in row 1", x.clear(1), 0);
        due("empty", x.count(5) + x.count(6), 0);
    }

    private static void laterOfEmptyRows() {
        due("both", laterOf(row(), row()), NONE);
        due("row 0", laterOf(row(), row(1, 2)), NONE);
        due("row 1", laterOf(row(1, 2), row()), NONE);
        VoiceParts x = heard(row(1), row(1));
        due("neither", x.later(), 0);
        x.clear(1);
        due("cleared", x.later(), NONE);
    }

    private static void turnedTellsBadApart() {
        VoiceParts x = heard(row(-1), row());
        due("-1 is an answer", x.turned(7, 0), -1);
        due("-1 is one back", x.turned(0, 1), -1);
        due("k -1", x.turned(-1, 0), BAD_TURNED);
        due("k 8", x.turned(8, 0), BAD_TURNED);
        due("k 8 back", x.turned(8, 1), BAD_TURNED);
        due("what -1", x.turned(0, -1), BAD_TURNED);
        due("what 2", x.turned(0, 2), BAD_TURNED);
    }

    private static void truthAnswersWhatItWas() {
        VoiceParts x = boardOf(2, 3, 3);
        due("0", x.truth(2, 1, 2, 99), 0);
        due("below", x.truth(2, 1, 2, -1), BAD);
        due("above", x.truth(2, 1, 2, 100), BAD);
        due("99", x.truth(2, 1, 2, 99), 99);
        due("99 again", x.truth(2, 1, 2, 0), 99);
        due("0 again", x.truth(2, 1, 2, 0), 0);
        due("no voice 3", x.truth(3, 1, 2, 0), BAD);
    }

    private static void everyCount() {
        VoiceParts x = heard(row(1, 2, 3), row(4));
        x.board(5, 7, 3);
        x.judge(SQUARE);
        x.bar(2, 1, 6);
        x.bar(2, 0, 4);
        x.rounds(9);
        int[] counts = {5, 7, 3, 1, 2, 3, 1, 9};
        due("-1", x.count(-1), BAD);
        for (int what = 0; what < 8; what++) {
            due("" + what, x.count(what), counts[what]);
        }
        due("8", x.count(8), BAD);
    }

    private static void theTraceAtItsEnds() {
        VoiceParts x = new VoiceParts();
        due("at first", x.trace(), 0);
        for (int call = 0; call < 300; call++) {
            x.cost(BENT, call);
        }
        due("300 of BENT", x.trace(), 33300);
        due("asking does not change it", x.trace(), 33300);
    }
}
