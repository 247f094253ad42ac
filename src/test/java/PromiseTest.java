import java.math.BigInteger;

/** For each promise: ordinary calls, the edges that the document names, wrong inputs. What is due is worked out by hand. */
public final class PromiseTest {
    private static final int LEAST = Integer.MIN_VALUE;
    private static final int MOST = Integer.MAX_VALUE;
    private static int wrong = 0;
    private static int asked = 0;

    private static void due(int promise, String what, long got, long want) {
        asked++;
        if (got != want) {
            wrong++;
            System.out.println("promise " + promise + ": " + what + " answered " + got + ", due is " + want);
        }
    }

    private static void due(int promise, String what, boolean got, boolean want) {
        due(promise, what, got ? 1 : 0, want ? 1 : 0);
    }

    private static BigInteger big(long n) {
        return BigInteger.valueOf(n);
    }

    private static void dueAnswer(int promise, ChartDesk x, BigInteger above, BigInteger below) {
        BigInteger[] both = {above, below};
        for (int which = 0; which < 2; which++) {
            due(promise, "length(" + which + ")", x.length(which), both[which].bitLength());
            for (int k = 0; k <= both[which].bitLength() / 32 + 2; k++) {
                int word = both[which].shiftRight(32 * k).intValue();
                due(promise, "bits(" + which + ", " + k + ")", x.bits(which, k), word);
            }
        }
    }

    private static void dueAnswer(int promise, ChartDesk x, long above, long below) {
        dueAnswer(promise, x, big(above), big(below));
    }

    /** Scores and lots by turns. */
    private static void fill(ChartDesk x, int book, int... scoresAndLots) {
        for (int score = -20; score <= 20; score++) {
            x.lots(book, score, 0);
        }
        for (int i = 0; i + 1 < scoresAndLots.length; i += 2) {
            x.lots(book, scoresAndLots[i], scoresAndLots[i + 1]);
        }
    }

    /** Book 0: 1 or -1, each with one lot; 1: always 1; 2: always 0. Chart 0: sums, mean 0, line 1. */
    private static ChartDesk small() {
        ChartDesk x = new ChartDesk();
        fill(x, 0, 1, 1, -1, 1);
        fill(x, 1, 1, 5);
        fill(x, 2, 0, 7);
        x.chart(0, 2, 0, 1, 0, 0, 0);
        return x;
    }

    private static void newObject() {
        ChartDesk x = new ChartDesk();
        due(1, "NONE", ChartDesk.NONE, -1);
        for (int book = 0; book < 4; book++) {
            due(1, "whole", x.whole(book), 0);
            for (int score = -20; score <= 20; score++) {
                due(1, "lot", x.lot(book, score), 0);
            }
        }
        for (int c = 0; c < 6; c++) {
            due(1, "of", x.of(c, 0), -1);
        }
        for (int s = 0; s < 4; s++) {
            due(1, "put", x.put(s, 0, 0), false);
        }
        due(1, "order", x.order(), 0);
        due(1, "times", x.times(1000000), 0);
        dueAnswer(1, x, 0, 1);
    }

    private static void lotsAndWhole() {
        ChartDesk x = new ChartDesk();
        due(2, "lots(3, -20, 99)", x.lots(3, -20, 99), true);
        due(2, "lots(3, 20, 1)", x.lots(3, 20, 1), true);
        due(4, "whole(3)", x.whole(3), 100);
        due(2, "lots(3, -20, 4)", x.lots(3, -20, 4), true);
        due(3, "lot(3, -20)", x.lot(3, -20), 4);
        due(3, "lot(3, 20)", x.lot(3, 20), 1);
        due(3, "lot(2, 20)", x.lot(2, 20), 0);
        due(4, "whole(3)", x.whole(3), 5);
        due(2, "lots(3, -20, 0)", x.lots(3, -20, 0), true);
        due(4, "whole(3)", x.whole(3), 1);
        int[][] wrongs = {{4, 0, 1}, {-1, 0, 1}, {0, 21, 1}, {0, -21, 1}, {0, 0, 100}, {0, 0, -1},
            {MOST, 0, 1}, {LEAST, 0, 1}, {0, MOST, 1}, {0, LEAST, 1}, {0, 0, MOST}, {0, 0, LEAST}};
        for (int[] w : wrongs) {
            due(2, "lots of none such", x.lots(w[0], w[1], w[2]), false);
        }
        due(4, "whole(0)", x.whole(0), 0);
        int[] noBook = {-1, 4, MOST, LEAST};
        for (int b : noBook) {
            due(3, "lot(" + b + ", 0)", x.lot(b, 0), -1);
            due(4, "whole(" + b + ")", x.whole(b), -1);
        }
        int[] noScore = {-21, 21, MOST, LEAST};
        for (int s : noScore) {
            due(3, "lot(0, " + s + ")", x.lot(0, s), -1);
        }
    }

    private static void add() {
        ChartDesk x = new ChartDesk();
        fill(x, 0, 1, 2, 2, 1);
        fill(x, 1, -1, 3, 0, 1);
        fill(x, 2, 7, 7);
        due(5, "add(0, 1, 2)", x.add(0, 1, 2), true);
        int[] due = {6, 5, 1};
        for (int i = 0; i < 3; i++) {
            due(5, "lot(2, " + i + ")", x.lot(2, i), due[i]);
        }
        due(5, "whole(2)", x.whole(2), 12);
        due(5, "add onto itself", x.add(0, 0, 0), true);
        due(5, "lot(0, 2)", x.lot(0, 2), 4);
        due(5, "lot(0, 3)", x.lot(0, 3), 4);
        due(5, "lot(0, 4)", x.lot(0, 4), 1);
        due(5, "whole(0)", x.whole(0), 9);
        due(5, "add with an empty book", x.add(0, 3, 2), true);
        due(5, "whole(2)", x.whole(2), 0);
        addAtEdges();
    }

    private static void addAtEdges() {
        ChartDesk x = new ChartDesk();
        fill(x, 0, 20, 9);
        fill(x, 1, -20, 11, 0, 1);
        due(5, "add(0, 1, 0)", x.add(0, 1, 0), true);
        due(5, "99 lots", x.lot(0, 0), 99);
        due(5, "the top", x.lot(0, 20), 9);
        fill(x, 1, -20, 3, 20, 2);
        fill(x, 2, 0, 5);
        due(5, "both ends", x.add(1, 2, 3), true);
        due(5, "the least", x.lot(3, -20), 15);
        due(5, "the greatest", x.lot(3, 20), 10);
        fill(x, 1, 1, 1);
        due(5, "a sum beyond the scores", x.add(0, 1, 2), false);
        fill(x, 1, 20, 1);
        due(5, "40", x.add(1, 1, 2), false);
        fill(x, 1, -20, 1);
        due(5, "-40", x.add(1, 1, 2), false);
        addRefused();
    }

    private static void addRefused() {
        ChartDesk x = new ChartDesk();
        fill(x, 0, -20, 9);
        fill(x, 1, -1, 1);
        due(5, "a sum below the scores", x.add(0, 1, 0), false);
        due(5, "unchanged", x.lot(0, -20), 9);
        fill(x, 0, 0, 10);
        fill(x, 1, 3, 10);
        due(5, "100 lots", x.add(0, 1, 0), false);
        due(5, "unchanged", x.whole(0), 10);
        int[] none = {-1, 4, MOST, LEAST};
        for (int b : none) {
            due(5, "add", x.add(b, 1, 2), false);
            due(5, "add", x.add(1, b, 2), false);
            due(5, "add", x.add(2, 2, b), false);
        }
    }

    private static void charts() {
        int[][] goodOnes = {
            {0, -20, 20, 99, 99, 99, 1}, {0, 20, 20, 0, 0, 0, 1}, {0, -20, -20, 0, 0, 0, 1},
            {1, -20, 20, 0, 1, 1, 1}, {1, 5, 5, 19, 1, 2, 3}, {1, -3, 3, 1, 3, 3, 9}, {1, -3, 3, 1, 4, 4, 27},
            {2, -20, 0, 99, 99, 99, 1}, {2, 20, 20, 0, 0, 0, 21},
            {3, 0, 0, 99, 99, 99, 1}, {3, 20, 4, 0, 0, 0, 25},
            {4, 1, 0, 99, 99, 99, 1}, {4, 8, 3, 0, 0, 0, 25},
            {5, -20, 1, 1, 99, 99, 2}, {5, 20, 8, 3, 0, 0, 27}};
        ChartDesk x = new ChartDesk();
        for (int[] g : goodOnes) {
            due(6, "chart of kind " + g[0], x.chart(5, g[0], g[1], g[2], g[3], g[4], g[5]), g[6]);
            due(7, "its kind", x.of(5, 0), g[0]);
        }
        x.chart(5, 2, 0, 3, 0, 0, 0);
        x.turn(5, 2);
        int[][] wrongs = {
            {-1, 0, 0, 0, 0, 0}, {6, 0, 0, 0, 0, 0}, {MOST, 0, 0, 0, 0, 0}, {LEAST, 0, 0, 0, 0, 0},
            {0, -21, 0, 0, 0, 0}, {0, 0, 21, 0, 0, 0}, {0, 2, 1, 0, 0, 0}, {0, LEAST, MOST, 0, 0, 0},
            {1, -21, 0, 0, 1, 1}, {1, 0, 21, 0, 1, 1}, {1, 2, 1, 0, 1, 1}, {1, 0, 0, -1, 1, 1}, {1, 0, 0, 20, 1, 1},
            {1, 0, 0, 0, 0, 1}, {1, 0, 0, 0, 1, 0}, {1, 0, 0, 0, 1, 5}, {1, 0, 0, 0, 3, 2}, {1, 0, 0, 0, 5, 5},
            {2, -21, 0, 0, 0, 0}, {2, 21, 0, 0, 0, 0}, {2, 0, -1, 0, 0, 0}, {2, 0, 21, 0, 0, 0},
            {3, -1, 0, 0, 0, 0}, {3, 21, 0, 0, 0, 0}, {3, 0, -1, 0, 0, 0}, {3, 0, 5, 0, 0, 0},
            {4, 0, 0, 0, 0, 0}, {4, 9, 0, 0, 0, 0}, {4, 1, -1, 0, 0, 0}, {4, 1, 4, 0, 0, 0},
            {5, -21, 1, 1, 0, 0}, {5, 21, 1, 1, 0, 0}, {5, 0, 0, 1, 0, 0}, {5, 0, 9, 1, 0, 0},
            {5, 0, 1, 0, 0, 0}, {5, 0, 1, 4, 0, 0}};
        for (int[] w : wrongs) {
            due(6, "no chart of kind " + w[0], x.chart(5, w[0], w[1], w[2], w[3], w[4], w[5]), -1);
        }
        int[] none = {-1, 6, MOST, LEAST};
        for (int c : none) {
            due(6, "chart " + c, x.chart(c, 0, 0, 0, 0, 0, 0), -1);
        }
        due(6, "the chart is as it was", x.of(5, 0) * 100 + x.of(5, 1) * 10 + x.of(5, 4), 221);
        x.chart(5, 2, 0, 3, 0, 0, 0);
        due(6, "a new one", x.of(5, 1) + x.of(5, 2) + x.of(5, 3) + x.of(5, 4) + x.of(5, 5), 0);
    }

    private static void of() {
        ChartDesk x = new ChartDesk();
        x.chart(2, 2, 0, 3, 0, 0, 0);
        int[] scores = {2, 1, 5, -1, 1};
        for (int s : scores) {
            x.turn(2, s);
        }
        int[] due = {2, 1, 2, 1, 5, 5};
        for (int what = 0; what < 6; what++) {
            due(7, "of(2, " + what + ")", x.of(2, what), due[what]);
        }
        int[] none = {-1, 6, MOST, LEAST};
        for (int n : none) {
            due(7, "of(2, " + n + ")", x.of(2, n), -1);
            due(7, "of(" + n + ", 0)", x.of(n, 0), -1);
        }
        due(7, "of(1, 0)", x.of(1, 0), -1);
        x.chart(4, 4, 3, 2, 0, 0, 0);
        x.chart(5, 5, 1, 4, 2, 0, 0);
        due(7, "first state of fading", x.of(4, 1), 8);
        due(7, "first state of counts", x.of(5, 1), 4);
    }

    private static void steps(ChartDesk x, int c, int[][] stateScoreDue) {
        for (int[] s : stateScoreDue) {
            due(8, "step(" + c + ", " + s[0] + ", " + s[1] + ")", x.step(c, s[0], s[1]), s[2]);
        }
    }

    private static void step() {
        ChartDesk x = new ChartDesk();
        x.chart(0, 0, -3, 3, 0, 0, 0);
        steps(x, 0, new int[][] {{0, -4, -11}, {0, -3, 0}, {0, 3, 0}, {0, 4, -12}, {1, 0, -1}, {-1, 0, -1},
            {0, 21, -1}, {0, -21, -1}, {MOST, 0, -1}, {LEAST, 0, -1}, {0, MOST, -1}, {0, LEAST, -1}});
        x.chart(1, 1, -4, 4, 1, 2, 3);
        steps(x, 1, new int[][] {{0, 2, 1}, {0, 1, 0}, {0, -1, 0}, {0, -2, 2}, {1, 0, 3}, {3, 0, 0}, {3, 2, -13},
            {1, 2, -13}, {2, -2, -14}, {1, -2, 5}, {5, 2, -13}, {5, -2, -14}, {0, 5, -12}, {1, 5, -12},
            {0, -5, -11}, {2, -5, -11}, {8, 0, -14}, {4, 0, -13}, {9, 0, -1}});
        x.chart(1, 1, -20, 20, 0, 2, 4);
        steps(x, 1, new int[][] {{7, -2, -14}, {7, 2, -13}, {22, -2, -13}, {9, 0, 0}, {18, 1, 1}, {9, 1, -13},
            {1, 0, 3}, {3, 0, 9}, {27, 0, -1}});
        x.chart(1, 1, -20, 20, 0, 1, 1);
        steps(x, 1, new int[][] {{0, 1, -13}, {0, -1, -14}, {0, 0, 0}, {1, 0, -1}});
        x.chart(2, 2, 1, 8, 0, 0, 0);
        steps(x, 2, new int[][] {{0, 1, 0}, {0, -20, 0}, {0, 9, 8}, {0, 10, -15}, {8, 1, 8}, {8, 2, -15}, {5, -2, 2},
            {9, 0, -1}});
        x.chart(2, 2, -20, 20, 0, 0, 0);
        steps(x, 2, new int[][] {{0, 0, 20}, {0, 1, -15}, {20, -20, 20}, {20, 20, -15}});
        x.chart(3, 3, 1, 4, 0, 0, 0);
        steps(x, 3, new int[][] {{0, 3, 10}, {0, -3, 2}, {12, 0, 6}, {0, 5, 20}, {0, 6, -15}, {0, -5, 4}, {0, -6, -16},
            {24, 0, 18}, {25, 0, -1}});
        x.chart(3, 3, 0, 1, 0, 0, 0);
        steps(x, 3, new int[][] {{3, 1, -15}, {3, -1, -16}, {3, 0, 3}, {0, 1, 2}, {0, -1, 1}});
        x.chart(4, 4, 3, 2, 0, 0, 0);
        steps(x, 4, new int[][] {{8, 0, 8}, {8, 1, 10}, {8, -1, 6}, {8, 3, 12}, {8, 5, 16}, {8, 6, -12}, {8, -5, 0},
            {8, -6, -11}, {10, 1, 11}, {6, 1, 8}, {12, 0, 10}, {4, 0, 6}, {0, 0, 3}, {17, 0, -1}});
        x.chart(4, 4, 8, 0, 0, 0, 0);
        steps(x, 4, new int[][] {{0, 0, 0}, {0, 1, -12}, {0, -1, -11}});
        x.chart(5, 5, 1, 4, 2, 0, 0);
        steps(x, 5, new int[][] {{4, 0, 4}, {4, 1, 4}, {4, 2, 0}, {0, 0, 1}, {0, 2, 5}, {2, 2, 5}, {3, 2, 0},
            {5, 2, -17}, {8, 2, 0}, {9, 0, 9}, {5, 0, 6}, {7, 20, -17}, {10, 0, -1}});
        x.chart(5, 5, 0, 1, 1, 0, 0);
        steps(x, 5, new int[][] {{1, 1, 0}, {0, 1, 0}, {0, 0, 1}});
        due(8, "step changes nothing", x.of(5, 1) * 10 + x.of(5, 4), 10);
        ChartDesk empty = new ChartDesk();
        int[] none = {-1, 0, 5, 6, MOST, LEAST};
        for (int c : none) {
            due(8, "step of no chart", empty.step(c, 0, 0), -1);
        }
    }

    private static void turnAndLog() {
        ChartDesk x = new ChartDesk();
        x.chart(0, 4, 3, 2, 0, 0, 0);
        due(9, "turn", x.turn(0, 5), 0);
        due(9, "state", x.of(0, 1), 16);
        due(11, "log", x.log(0, 0), 5);
        due(9, "turn", x.turn(0, 20), 1);
        due(9, "first state", x.of(0, 1), 8);
        due(11, "log is empty", x.log(0, 0), -100);
        due(9, "why", x.of(0, 5), 2);
        due(9, "turn", x.turn(0, -20), 1);
        due(9, "why", x.of(0, 5), 1);
        due(9, "calls", x.of(0, 3), 2);
        due(9, "turns", x.of(0, 4), 3);
        int[] noScore = {-21, 21, MOST, LEAST};
        for (int s : noScore) {
            due(9, "turn of no score", x.turn(0, s), -1);
        }
        int[] noChart = {-1, 1, 6, MOST, LEAST};
        for (int c : noChart) {
            due(9, "turn of no chart", x.turn(c, 0), -1);
            due(10, "anew of no chart", x.anew(c), -1);
            due(11, "log of no chart", x.log(c, 0), -100);
        }
        due(9, "turns", x.of(0, 4), 3);
        x.turn(0, 5);
        due(10, "anew", x.anew(0), 16);
        due(10, "state", x.of(0, 1), 8);
        due(10, "log", x.of(0, 2), 0);
        due(10, "what stays", x.of(0, 3) * 100 + x.of(0, 4) * 10 + x.of(0, 5), 241);
        due(10, "anew again", x.anew(0), 8);
        x.chart(1, 0, -20, 20, 0, 0, 0);
        for (int i = 0; i < 95; i++) {
            due(11, "log before", x.log(1, Math.min(i, 40)), -100);
            x.turn(1, i % 41 - 20);
        }
        due(11, "40 scores", x.of(1, 2), 40);
        for (int i = 0; i < 40; i++) {
            due(11, "log(1, " + i + ")", x.log(1, i), (55 + i) % 41 - 20);
        }
        int[] beyond = {-1, 40, MOST, LEAST};
        for (int i : beyond) {
            due(11, "log(1, " + i + ")", x.log(1, i), -100);
        }
    }

    private static void sheets() {
        ChartDesk x = new ChartDesk();
        x.chart(0, 2, 0, 5, 0, 0, 0);
        due(14, "missing at first", x.run(0, 3, 0, 0), -3);
        due(12, "sheet(3, 40)", x.sheet(3, 40), true);
        due(13, "put(3, 39, -20)", x.put(3, 39, -20), true);
        due(13, "put(3, 0, 20)", x.put(3, 0, 20), true);
        due(14, "run", x.run(0, 3, 0, 40), 1);
        due(14, "turns", x.of(0, 4), 40);
        due(14, "log", x.of(0, 2), 39);
        due(14, "latest", x.log(0, 38), -20);
        due(12, "all 0 again", x.sheet(3, 2), true);
        due(14, "run", x.run(0, 3, 0, 2), 0);
        due(13, "put(3, 2, 0)", x.put(3, 2, 0), false);
        due(12, "sheet(3, 0)", x.sheet(3, 0), true);
        due(13, "put(3, 0, 0)", x.put(3, 0, 0), false);
        due(14, "nothing of nothing", x.run(0, 3, 0, 0), 0);
        due(14, "nothing from beyond", x.run(0, 3, 7, 0), 0);
        due(14, "one of nothing", x.run(0, 3, 0, 1), -100);
        due(12, "missing", x.sheet(3, -1), true);
        due(12, "missing twice", x.sheet(3, -1), true);
        due(13, "put on a missing one", x.put(3, 0, 0), false);
        due(14, "run on a missing one", x.run(0, 3, 0, 1), -3);
        int[][] wrongSheets = {{-1, 0}, {4, 0}, {MOST, 0}, {LEAST, 0}, {0, -2}, {0, 41}, {0, MOST}, {0, LEAST}};
        for (int[] w : wrongSheets) {
            due(12, "sheet that can't be", x.sheet(w[0], w[1]), false);
        }
        x.sheet(1, 5);
        int[][] wrongPuts = {{-1, 0, 0}, {4, 0, 0}, {1, -1, 0}, {1, 5, 0}, {1, 0, 21}, {1, 0, -21}, {0, 0, 0},
            {MOST, 0, 0}, {LEAST, 0, 0}, {1, MOST, 0}, {1, LEAST, 0}, {1, 0, MOST}, {1, 0, LEAST}};
        for (int[] w : wrongPuts) {
            due(13, "put that can't be", x.put(w[0], w[1], w[2]), false);
        }
        int turns = x.of(0, 4);
        int[][] wrongRuns = {{0, 1, 0, -1, -2}, {0, 1, -1, 1, -2}, {0, 4, 0, 1, -2}, {0, -1, 0, 1, -2}, {1, 1, 0, 1, -2},
            {-1, 1, 0, 1, -2}, {6, 1, 0, 1, -2}, {0, 2, 0, -1, -2}, {5, 2, 0, 1, -2}, {0, 2, -1, 1, -2},
            {0, 1, LEAST, 1, -2}, {0, 1, 0, LEAST, -2}, {MOST, 1, 0, 1, -2}, {0, MOST, 0, 1, -2}, {0, 2, 0, 1, -3}};
        for (int[] w : wrongRuns) {
            due(14, "run that can't be", x.run(w[0], w[1], w[2], w[3]), w[4]);
        }
        due(14, "nothing done", x.of(0, 4), turns);
        x.put(1, 3, 6);
        due(14, "two are there", x.run(0, 1, 3, 3), -102);
        due(14, "they came", x.of(0, 4) * 10 + x.of(0, 3), (turns + 2) * 10 + 2);
        due(14, "five are there", x.run(0, 1, 0, MOST), -105);
        due(14, "none is there", x.run(0, 1, MOST, MOST), -100);
        due(14, "the last one", x.run(0, 1, 4, 1), 0);
    }

    private static void draw() {
        ChartDesk x = new ChartDesk();
        fill(x, 0, -1, 1, 2, 2);
        x.chart(0, 0, -20, 20, 0, 0, 0);
        due(15, "draw", x.draw(0, 0, 0, 10), 0);
        int[] due = {-1, -1, -1, 2, -1, 2, -1, -1, -1, -1};
        for (int i = 0; i < 10; i++) {
            due(15, "log(0, " + i + ")", x.log(0, i), due[i]);
        }
        fill(x, 1, -20, 2, 0, 3, 20, 5);
        x.anew(0);
        due(15, "draw", x.draw(0, 1, -7, 12), 0);
        int[] then = {20, 20, 20, 20, 0, 20, 20, 0, 20, 20, 20, 20};
        for (int i = 0; i < 12; i++) {
            due(15, "log(0, " + i + ")", x.log(0, i), then[i]);
        }
        x.chart(1, 0, -20, 0, 0, 0, 0);
        due(15, "how many calls", x.draw(1, 1, -7, 12), 10);
        due(15, "200", x.draw(1, 1, 1, 200) >= 0, true);
        due(15, "turns", x.of(1, 4), 212);
        int[][] wrongs = {{0, 0, 0, 0}, {0, 0, 0, 201}, {0, 0, 0, -1}, {0, 2, 0, 1}, {0, 4, 0, 1}, {0, -1, 0, 1},
            {2, 0, 0, 1}, {-1, 0, 0, 1}, {6, 0, 0, 1}, {0, 0, 0, MOST}, {0, 0, 0, LEAST}, {MOST, 0, 0, 1},
            {0, LEAST, 0, 1}};
        for (int[] w : wrongs) {
            due(15, "draw that can't be", x.draw(w[0], w[1], w[2], w[3]), -1);
        }
        due(15, "nothing done", x.of(0, 4), 22);
    }

    /** Wrong inputs that mean, by, left, found, reached, alike and kinds have in common. */
    private static void wrongWaits() {
        ChartDesk x = small();
        x.mean(0, 0, 0);
        int[] noChart = {-1, 1, 6, MOST, LEAST};
        for (int c : noChart) {
            due(16, "reached", x.reached(c, 0, 0), -1);
            due(17, "mean", x.mean(c, 0, 0), -1);
            due(18, "by", x.by(c, 0, 0, 1), -1);
            due(19, "left", x.left(c, 0, 1, 0), -1);
            due(20, "found", x.found(c, 0, 1, 1), -1);
            due(23, "alike", x.alike(c, 0, 0, 0), -1);
            due(24, "kinds", x.kinds(c, 0), -1);
            due(26, "back", x.back(c, 0, 0), -1);
        }
        int[] noBook = {-1, 3, 4, MOST, LEAST};
        for (int b : noBook) {
            due(16, "reached", x.reached(0, b, 0), -1);
            due(17, "mean", x.mean(0, b, 0), -1);
            due(18, "by", x.by(0, b, 0, 1), -1);
            due(19, "left", x.left(0, b, 1, 0), -1);
            due(20, "found", x.found(0, b, 1, 1), -1);
            due(20, "found", x.found(0, 0, 1, b), -1);
            due(23, "alike", x.alike(0, b, 0, 0), -1);
            due(24, "kinds", x.kinds(0, b), -1);
            due(26, "back", x.back(0, b, 0), -1);
            due(26, "back", x.back(0, 0, b), -1);
            due(25, "best", x.best(0, b, 0, 0), -2);
            due(25, "best", x.best(0, 0, b, 0), -2);
        }
        int[] noState = {-1, 2, MOST, LEAST};
        for (int s : noState) {
            due(16, "reached", x.reached(0, 0, s), -1);
            due(17, "mean", x.mean(0, 0, s), -1);
            due(18, "by", x.by(0, 0, s, 1), -1);
            due(19, "left", x.left(0, 0, 1, s), -1);
            due(23, "alike", x.alike(0, 0, s, 0), -1);
            due(23, "alike", x.alike(0, 0, 0, s), -1);
        }
        int[] noTurns = {-1, 41, MOST, LEAST};
        for (int n : noTurns) {
            due(18, "by", x.by(0, 0, 0, n), -1);
            due(19, "left", x.left(0, 0, n, 0), -1);
            due(20, "found", x.found(0, 0, n, 1), -1);
        }
        dueAnswer(17, x, 6, 1);
        due(30, "order", x.order(), 1);
    }

    private static void reachedAndMean() {
        ChartDesk x = small();
        due(16, "reached(0, 0, 0)", x.reached(0, 0, 0), 2);
        due(16, "reached(0, 2, 1)", x.reached(0, 2, 1), 1);
        x.chart(1, 2, 0, 3, 0, 0, 0);
        due(16, "four", x.reached(1, 1, 0), 4);
        due(16, "two", x.reached(1, 1, 2), 2);
        due(17, "mean(0, 0, 0)", x.mean(0, 0, 0), 1);
        dueAnswer(17, x, 6, 1);
        due(17, "mean(0, 0, 1)", x.mean(0, 0, 1), 1);
        dueAnswer(17, x, 4, 1);
        due(17, "mean(1, 1, 0)", x.mean(1, 1, 0), 1);
        dueAnswer(17, x, 4, 1);
        due(17, "never", x.mean(0, 2, 0), 0);
        dueAnswer(17, x, 4, 1);
        fill(x, 3, 0, 9, 5, 1, -5, 2);
        x.chart(2, 0, -4, 4, 0, 0, 0);
        due(17, "lines", x.mean(2, 3, 0), 1);
        dueAnswer(17, x, 4, 1);
        x.lots(3, 1, 1);
        x.mean(2, 3, 0);
        dueAnswer(17, x, 13, 3);
        x.chart(3, 1, -20, 20, 3, 3, 4);
        due(17, "three above already", x.mean(3, 2, 13), 1);
        dueAnswer(17, x, 1, 1);
        due(17, "and two are not enough", x.mean(3, 2, 4), 0);
        fill(x, 3, 1, 1, -20, 99);
        x.chart(4, 2, 0, 20, 0, 0, 0);
        due(17, "21 of 1 in a row", x.mean(4, 3, 0), 1);
        BigInteger long21 = big(100).pow(22).subtract(big(100)).divide(big(99));
        dueAnswer(17, x, long21, BigInteger.ONE);
        due(29, "cut", x.times(1), 1000000000000000000L);
        due(29, "none", x.times(0), 0);
        x.chart(4, 2, 0, 9, 0, 0, 0);
        x.mean(4, 3, 0);
        due(29, "cut", x.times(1), 1000000000000000000L);
        x.chart(4, 2, 0, 7, 0, 0, 0);
        x.mean(4, 3, 0);
        due(29, "not cut", x.times(99), 999999999999999900L);
        due(29, "cut", x.times(100), 1000000000000000000L);
        due(29, "cut", x.times(1000000), 1000000000000000000L);
        fill(x, 3, 20, 3);
        x.chart(5, 5, -20, 1, 1, 0, 0);
        due(17, "gap 1 never calls", x.mean(5, 3, 1), 0);
    }

    private static void turnsOn() {
        ChartDesk x = small();
        fill(x, 3, 0, 9, 5, 1);
        x.chart(1, 0, -4, 4, 0, 0, 0);
        due(18, "by 0", x.by(1, 3, 0, 0), 1);
        dueAnswer(18, x, 0, 1);
        due(18, "by 2", x.by(1, 3, 0, 2), 1);
        dueAnswer(18, x, 19, 100);
        due(18, "by 40", x.by(1, 3, 0, 40), 1);
        dueAnswer(18, x, big(10).pow(40).subtract(big(9).pow(40)), big(10).pow(40));
        due(18, "by for sure", x.by(0, 1, 0, 2), 1);
        dueAnswer(18, x, 1, 1);
        due(18, "by from 1", x.by(0, 0, 1, 1), 1);
        dueAnswer(18, x, 1, 2);
        int[][] left = {{0, 0, 1, 1}, {0, 1, 0, 1}, {1, 0, 1, 2}, {1, 1, 1, 2}, {2, 0, 1, 2}, {2, 1, 1, 4}};
        for (int[] l : left) {
            due(19, "left", x.left(0, 0, l[0], l[1]), 1);
            dueAnswer(19, x, l[2], l[3]);
        }
        due(19, "left 40", x.left(1, 3, 40, 0), 1);
        dueAnswer(19, x, big(9).pow(40), big(10).pow(40));
        x.chart(2, 4, 8, 1, 0, 0, 0);
        due(19, "left of a state that is not reached", x.left(2, 0, 3, 1), 1);
        dueAnswer(19, x, 0, 1);
        due(19, "left of -4", x.left(2, 0, 3, 0), 1);
        dueAnswer(19, x, 1, 2);
        int[][] found = {{0, 2, 1}, {1, 3, 2}, {2, 5, 3}};
        for (int[] f : found) {
            due(20, "found after " + f[0], x.found(0, 0, f[0], 1), 1);
            dueAnswer(20, x, f[1], f[2]);
        }
        due(20, "found calls before", x.found(0, 1, 2, 0), 0);
        due(20, "found never", x.found(0, 0, 1, 2), 0);
        dueAnswer(20, x, 5, 3);
        due(20, "found after 40", x.found(1, 3, 40, 3), 1);
        dueAnswer(20, x, 10, 1);
    }

    private static void together() {
        ChartDesk x = small();
        x.chart(1, 0, -20, 0, 0, 0, 0);
        x.chart(2, 0, 0, 20, 0, 0, 0);
        x.chart(3, 0, -20, 0, 0, 0, 0);
        due(21, "each turn one calls", x.join(1, 2, 0), 1);
        dueAnswer(21, x, 1, 1);
        due(22, "ahead", x.ahead(1, 2, 0, 0), 1);
        dueAnswer(22, x, 1, 2);
        due(22, "at once", x.ahead(1, 2, 0, 1), 1);
        dueAnswer(22, x, 0, 1);
        due(21, "like ones", x.join(1, 3, 0), 1);
        dueAnswer(21, x, 2, 1);
        due(22, "at once", x.ahead(1, 3, 0, 1), 1);
        dueAnswer(22, x, 1, 1);
        due(22, "ahead", x.ahead(3, 1, 0, 0), 1);
        dueAnswer(22, x, 0, 1);
        due(21, "sums and -1", x.join(0, 2, 0), 1);
        dueAnswer(21, x, 3, 2);
        due(22, "1 twice", x.ahead(0, 2, 0, 0), 1);
        dueAnswer(22, x, 1, 4);
        due(22, "-1 before", x.ahead(2, 0, 0, 0), 1);
        dueAnswer(22, x, 3, 4);
        due(21, "never", x.join(0, 1, 2), 0);
        due(22, "never", x.ahead(0, 1, 2, 0), 0);
        dueAnswer(22, x, 3, 4);
        int[][] none = {{0, 0, 0}, {0, 4, 0}, {4, 0, 0}, {-1, 0, 0}, {0, 6, 0}, {0, 1, 3}, {0, 1, 4}, {0, 1, -1},
            {MOST, 0, 0}, {0, LEAST, 0}, {0, 1, LEAST}};
        for (int[] n : none) {
            due(21, "join of none", x.join(n[0], n[1], n[2]), -1);
            due(22, "ahead of none", x.ahead(n[0], n[1], n[2], 0), -1);
        }
        int[] noSuch = {-1, 2, MOST, LEAST};
        for (int w : noSuch) {
            due(22, "ahead of no such kind", x.ahead(0, 1, 0, w), -1);
        }
        spent(x);
    }

    /** Sums with line 15 or 16 beside fading that remembers the latest score, or beside sums with mean 1 and line 1. */
    private static void spent(ChartDesk x) {
        fill(x, 3, 1, 2, -1, 3, 2, 1);
        x.chart(0, 2, 0, 14, 0, 0, 0);
        x.chart(1, 2, 0, 15, 0, 0, 0);
        x.chart(2, 2, 0, 16, 0, 0, 0);
        x.chart(3, 4, 8, 1, 0, 0, 0);
        x.chart(4, 2, 1, 1, 0, 0, 0);
        due(21, "29 states", x.join(0, 3, 3), 1);
        due(21, "31 states", x.join(1, 3, 3), -2);
        due(22, "31 states", x.ahead(1, 3, 3, 0), -2);
        due(22, "31 states", x.ahead(3, 1, 3, 1), -2);
        due(21, "30 states", x.join(1, 4, 3), 1);
        due(22, "30 states", x.ahead(4, 1, 3, 0), 1);
        due(21, "32 states", x.join(2, 4, 3), -2);
        due(21, "31 states, none", x.join(1, 1, 3), -1);
    }

    private static void alike() {
        ChartDesk x = small();
        fill(x, 3, 2, 1);
        x.chart(1, 2, 0, 3, 0, 0, 0);
        int[][] pairs = {{0, 1, 1}, {2, 3, 1}, {1, 2, 0}, {0, 3, 0}, {2, 2, 1}};
        for (int[] p : pairs) {
            due(23, "alike " + p[0] + " " + p[1], x.alike(1, 3, p[0], p[1]), p[2]);
            due(23, "alike " + p[1] + " " + p[0], x.alike(1, 3, p[1], p[0]), p[2]);
        }
        due(24, "kinds", x.kinds(1, 3), 2);
        due(24, "kinds by -1 and 1", x.kinds(1, 0), 4);
        due(24, "kinds by 0", x.kinds(1, 2), 1);
        due(23, "none ever calls", x.alike(1, 2, 0, 3), 1);
        x.chart(2, 1, -20, 20, 0, 2, 2);
        due(23, "why is no matter", x.alike(2, 0, 1, 2), 0);
        x.chart(3, 0, -20, 20, 0, 0, 0);
        due(24, "one state", x.kinds(3, 0), 1);
        x.chart(4, 1, -20, 20, 0, 2, 3);
        // By 1 alone: (1, 1) and (1, 2) both call at once, and so do all with one above; the others after two turns.
        due(23, "both call at once", x.alike(4, 1, 1, 4), 1);
        due(23, "by other whys", x.alike(4, 1, 8, 1), 1);
        due(23, "none above", x.alike(4, 1, 0, 2), 1);
        due(23, "one above", x.alike(4, 1, 0, 3), 0);
        due(24, "kinds", x.kinds(4, 1), 2);
        x.chart(5, 4, 8, 1, 0, 0, 0);
        due(16, "three are reached", x.reached(5, 0, 4), 3);
        due(24, "none of which ever calls", x.kinds(5, 0), 1);
        int[] ends = {-20, 20};
        for (int i = 0; i < 2; i++) {
            fill(x, 3, ends[i], 1);
            due(23, "by the end " + ends[i], x.alike(2, 3, 0, 2 - i), 0);
            due(23, "by the end " + ends[i], x.alike(2, 3, 0, 1 + i), 1);
            due(24, "kinds by the end " + ends[i], x.kinds(2, 3), 2);
        }
    }

    private static void best() {
        ChartDesk x = small();
        // By 1 or -1 the mean with a line is (line + 1) (line + 2); by 1 alone it is line + 1.
        int[][] leasts = {{0, 0, 1}, {2, 0, 1}, {3, 1, 2}, {6, 1, 2}, {7, 2, 3}, {12, 2, 3}, {13, 3, 4}, {182, 12, 13}};
        for (int[] l : leasts) {
            due(25, "best of at least " + l[0], x.best(0, 0, 1, l[0]), l[1]);
            dueAnswer(25, x, l[2], 1);
        }
        due(25, "too much", x.best(0, 0, 1, 183), -1);
        due(25, "too much", x.best(0, 0, 1, 1000000), -1);
        due(25, "never by b", x.best(0, 0, 2, 0), -1);
        dueAnswer(25, x, 13, 1);
        due(25, "never by a is enough", x.best(0, 2, 0, 1000000), 0);
        dueAnswer(25, x, 2, 1);
        due(25, "a mean of -20 calls at once", x.best(-20, 2, 2, 1), 0);
        dueAnswer(25, x, 1, 1);
        due(25, "and no later", x.best(-20, 2, 2, 2), -1);
        due(25, "a mean of 20", x.best(20, 0, 1, 0), -1);
        int[][] wrongs = {{-21, 0, 1, 0}, {21, 0, 1, 0}, {0, 4, 1, 0}, {0, 0, -1, 0}, {0, 3, 1, 0}, {0, 0, 3, 0},
            {0, 0, 1, -1}, {0, 0, 1, 1000001}, {MOST, 0, 1, 0}, {LEAST, 0, 1, 0}, {0, 0, 1, MOST}, {0, 0, 1, LEAST}};
        for (int[] w : wrongs) {
            due(25, "best that can't be", x.best(w[0], w[1], w[2], w[3]), -2);
        }
        dueAnswer(25, x, 1, 1);
    }

    private static void back() {
        int[][] logs = {{}, {0}, {1}, {0, 0, 1, 1}, {1, 0, 0, 1, 1}, {1, 1, 1}, {0, 0, 0}, {0, 1, 0, 1}, {1, 0, 1, 0}};
        int[] due = {0, 1, 0, 2, 3, 0, 3, 1, 0};
        for (int i = 0; i < logs.length; i++) {
            ChartDesk x = new ChartDesk();
            x.chart(0, 0, -20, 20, 0, 0, 0);
            fill(x, 0, 0, 3, 1, 1);
            fill(x, 1, 0, 2, 1, 6);
            for (int score : logs[i]) {
                x.turn(0, score);
            }
            due(26, "back " + i, x.back(0, 0, 1), due[i]);
            due(26, "the same book", x.back(0, 0, 0), 0);
        }
        ChartDesk x = new ChartDesk();
        x.chart(0, 0, -20, 20, 0, 0, 0);
        fill(x, 0, 0, 3, 2, 1);
        fill(x, 1, 1, 2, 2, 1);
        x.turn(0, 0);
        due(26, "only by a", x.back(0, 0, 1), 1);
        due(26, "only by a", x.back(0, 1, 0), 0);
        x.turn(0, 2);
        due(26, "2 is as likely by neither", x.back(0, 0, 1), 1);
        x.turn(0, 1);
        due(26, "only by b", x.back(0, 0, 1), 1);
        due(26, "0 ahead of 1", x.back(0, 1, 0), -1);
        x.turn(0, 0);
        due(26, "0 after 1", x.back(0, 0, 1), -1);
        due(26, "0 after 1", x.back(0, 1, 0), -1);
        longBack();
    }

    /** 40 scores, of which the first 20 speak for one book by a hair only, and the others against it. */
    private static void longBack() {
        ChartDesk x = new ChartDesk();
        x.chart(0, 0, -20, 20, 0, 0, 0);
        fill(x, 0, 0, 99, 1, 98);
        fill(x, 1, 0, 98, 1, 99);
        for (int i = 0; i < 47; i++) {
            x.turn(0, i < 27 ? 0 : 1);
        }
        due(26, "after 20 of the 40", x.back(0, 0, 1), 20);
        due(26, "all or none, the least", x.back(0, 1, 0), 0);
    }

    private static void answer() {
        ChartDesk x = small();
        fill(x, 3, 0, 9, 5, 1);
        x.chart(1, 0, -4, 4, 0, 0, 0);
        int[] others = {-1, 2, MOST, LEAST};
        for (int o : others) {
            due(27, "length(" + o + ")", x.length(o), -1);
            due(28, "bits(" + o + ", 0)", x.bits(o, 0), 0);
        }
        x.left(1, 3, 31, 0);
        dueAnswer(27, x, big(9).pow(31), big(10).pow(31));
        int[] beyond = {-1, 4, 60, 64, 1 << 27, MOST, LEAST};
        for (int k : beyond) {
            due(28, "bits(1, " + k + ")", x.bits(1, k), 0);
        }
        due(29, "times(1000000)", x.times(1000000), 38152);
        due(29, "times(1)", x.times(1), 0);
        due(29, "times(0)", x.times(0), 0);
        int[] noTimes = {-1, 1000001, MOST, LEAST};
        for (int n : noTimes) {
            due(29, "times(" + n + ")", x.times(n), -1);
        }
        due(30, "above 0", x.order(), 1);
        x.left(1, 3, 32, 0);
        due(30, "less", x.order(), -1);
        x.left(1, 3, 32, 0);
        due(30, "the same", x.order(), 0);
        x.left(1, 3, 31, 0);
        due(30, "more", x.order(), 1);
        x.mean(0, 2, 0);
        x.by(0, 0, 0, 41);
        x.length(0);
        due(30, "more, still", x.order(), 1);
        x.best(0, 0, 1, 7);
        due(30, "3 is more", x.order(), 1);
        x.mean(0, 1, 0);
        due(30, "2 is less than 3", x.order(), -1);
        x.mean(0, 0, 0);
        due(29, "times", x.times(1000000), 6000000);
    }

    private static void images() {
        ChartDesk x = small();
        int[] noPlace = {-1, 2, MOST, LEAST};
        for (int p : noPlace) {
            due(31, "image(" + p + ")", x.image(p), false);
            due(32, "again(" + p + ")", x.again(p), false);
        }
        due(32, "nothing is kept", x.again(0), false);
        x.sheet(0, 3);
        x.put(0, 2, 4);
        x.turn(0, 3);
        x.turn(0, 1);
        due(31, "image(0)", x.image(0), true);
        due(32, "nothing is kept there", x.again(1), false);
        x.mean(0, 0, 0);
        x.mean(0, 0, 1);
        x.chart(0, 0, 0, 0, 0, 0, 0);
        x.chart(1, 0, 0, 0, 0, 0, 0);
        x.lots(0, 3, 3);
        x.put(0, 2, 5);
        x.sheet(1, 1);
        x.image(1);
        due(32, "again(0)", x.again(0), true);
        due(32, "chart", x.of(0, 0) * 10000 + x.of(0, 1) * 1000 + x.of(0, 2) * 100 + x.of(0, 3) * 10 + x.of(0, 4), 21112);
        due(32, "why", x.of(0, 5), 5);
        due(32, "log", x.log(0, 0), 1);
        due(32, "no other chart", x.of(1, 0), -1);
        due(32, "book", x.whole(0) * 10 + x.lot(0, 3), 20);
        due(32, "no other sheet", x.put(1, 0, 0), false);
        due(32, "the answers stay", x.order(), -1);
        dueAnswer(32, x, 4, 1);
        x.chart(2, 0, -20, 20, 0, 0, 0);
        x.run(2, 0, 0, 3);
        due(32, "sheet", x.log(2, 2), 4);
        due(32, "again(0)", x.again(0), true);
        due(32, "the image is not touched", x.of(2, 0), -1);
        due(32, "again(1)", x.again(1), true);
        due(32, "the other image", x.of(1, 0) * 10 + x.lot(0, 3), 3);
        due(31, "kept anew", x.image(0), true);
        x.lots(0, 3, 0);
        x.again(0);
        due(32, "what was kept last", x.lot(0, 3), 3);
    }

    public static void main(String[] arguments) {
        newObject();
        lotsAndWhole();
        add();
        charts();
        of();
        step();
        turnAndLog();
        sheets();
        draw();
        wrongWaits();
        reachedAndMean();
        turnsOn();
        together();
        alike();
        best();
        back();
        answer();
        images();
        System.out.println(wrong == 0 ? asked + " answers are as due" : wrong + " answers are not as due");
        if (wrong != 0) {
            System.exit(1);
        }
    }
}
