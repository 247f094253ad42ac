/** Boundary cases of promises 6 to 11: CHARTS of each KIND, their STATES and LOGS. */
final class ChartCases {
    private static final int LEAST = Integer.MIN_VALUE;
    private static final int MOST = Integer.MAX_VALUE;
    /** Beside the numbers that can't be, CHART 5, which is not there. */
    private static final int[] NO_CHART = {-1, 5, 6, LEAST, MOST};
    private static final int[] NO_SCORE = {-21, 21, LEAST, MOST};

    private ChartCases() {
    }

    static void all() {
        chart();
        numbersOfLines();
        numbersOfRuns();
        numbersOfOtherKinds();
        of();
        step();
        stepByLines();
        stepByRuns();
        stepBySums();
        stepByTwo();
        stepByFading();
        stepByCounts();
        turn();
        anew();
        log();
    }

    private static void chart() {
        Cases.holds(6, "CHARTS 0 and 5 may be, -1 and 6 may not", Cases.FURNISHED, "chart(0, 0, 0, 0, 0, 0, 0) = 1",
                "chart(5, 0, 0, 0, 0, 0, 0) = 1", Cases.each("chart(#, 0, 0, 0, 0, 0, 0) = NONE", -1, 6, LEAST, MOST));
        Cases.holds(6, "KINDS 0 and 5 may be, -1 and 6 may not", Cases.FURNISHED,
                Cases.each("chart(3, #, 1, 1, 1, 1, 1) = NONE", -1, 6, LEAST, MOST),
                "chart(3, 0, 1, 1, 1, 1, 1) = 1; of(3, 0) = 0; chart(3, 5, 1, 1, 1, 1, 1) = 2; of(3, 0) = 5");
        Cases.holds(6, "numbers that a KIND has not are not looked at", "chart(0, 0, -1, 1, MIN, MAX, MIN) = 1",
                "chart(1, 2, 0, 1, MAX, MIN, MAX) = 2; chart(2, 3, 0, 1, MIN, MAX, MIN) = 4",
                "chart(3, 4, 1, 1, MAX, MIN, MAX) = 9; chart(4, 5, 0, 1, 1, MIN, MAX) = 2");
        Cases.holds(6, "a new CHART in the place of one that has CALLED", Cases.FURNISHED, "of(1, 3) = 1; of(1, 5) = 2",
                "chart(1, 0, -4, 4, 0, 0, 0) = 1", Cases.each("of(1, #) = 0", 0, 1, 2, 3, 4, 5), "log(1, 0) = -100");
        Cases.holds(6, "a refused CHART leaves the one that is there",
                Cases.FURNISHED, "chart(1, 0, 5, 4, 0, 0, 0) = NONE",
                "of(1, 0) = 0; of(1, 2) = 1; of(1, 3) = 1; of(1, 4) = 3; of(1, 5) = 2; log(1, 0) = -2");
        Cases.holds(6, "a refused CHART is not there", Cases.FURNISHED, "chart(5, 2, 0, 21, 0, 0, 0) = NONE",
                "of(5, 0) = NONE; turn(5, 0) = NONE");
        Cases.holds(6, "each KIND begins in its first STATE", "chart(0, 1, -3, 3, 1, 4, 4) = 27; of(0, 1) = 0",
                "chart(0, 2, -20, 20, 0, 0, 0) = 21; of(0, 1) = 0; chart(0, 3, 20, 4, 0, 0, 0) = 25; of(0, 1) = 0",
                "chart(0, 4, 1, 0, 0, 0, 0) = 1; of(0, 1) = 0; chart(0, 4, 1, 3, 0, 0, 0) = 25; of(0, 1) = 12",
                "chart(0, 5, 0, 1, 3, 0, 0) = 6; of(0, 1) = 1; chart(0, 5, 0, 8, 3, 0, 0) = 27; of(0, 1) = 8");
    }

    private static void numbersOfLines() {
        Cases.holds(6, "LINES: low -20 may be, -21 may not", Cases.FURNISHED,
                Cases.each("chart(0, 0, #, 3, 0, 0, 0) = NONE", -21, LEAST), "chart(0, 0, -20, 3, 0, 0, 0) = 1");
        Cases.holds(6, "LINES: high 20 may be, 21 may not", Cases.FURNISHED,
                Cases.each("chart(0, 0, -3, #, 0, 0, 0) = NONE", 21, MOST), "chart(0, 0, -3, 20, 0, 0, 0) = 1");
        Cases.holds(6, "LINES: low may be high, not above it", Cases.FURNISHED, "chart(0, 0, 1, 0, 0, 0, 0) = NONE",
                "chart(0, 0, 20, -20, 0, 0, 0) = NONE; chart(0, 0, -19, -20, 0, 0, 0) = NONE",
                "chart(0, 0, 20, 19, 0, 0, 0) = NONE; chart(0, 0, 0, 0, 0, 0, 0) = 1",
                "chart(0, 0, -20, -20, 0, 0, 0) = 1",
                "chart(0, 0, 20, 20, 0, 0, 0) = 1; chart(0, 0, -20, 20, 0, 0, 0) = 1");
        Cases.holds(6, "LINES: both on one side of the SCORES", Cases.FURNISHED, "chart(0, 0, 21, 21, 0, 0, 0) = NONE",
                "chart(0, 0, -21, -21, 0, 0, 0) = NONE; chart(0, 0, MIN, MAX, 0, 0, 0) = NONE");
    }

    private static void numbersOfRuns() {
        Cases.holds(6, "RUNS: low -20 may be, -21 may not", Cases.FURNISHED,
                Cases.each("chart(0, 1, #, 3, 1, 1, 1) = NONE", -21, LEAST), "chart(0, 1, -20, 3, 1, 1, 1) = 1");
        Cases.holds(6, "RUNS: high 20 may be, 21 may not", Cases.FURNISHED,
                Cases.each("chart(0, 1, -3, #, 1, 1, 1) = NONE", 21, MOST), "chart(0, 1, -3, 20, 1, 1, 1) = 1");
        Cases.holds(6, "RUNS: low may be high, not above it", Cases.FURNISHED, "chart(0, 1, 1, 0, 1, 1, 1) = NONE",
                "chart(0, 1, 0, 0, 1, 1, 1) = 1");
        Cases.holds(6, "RUNS: band 0 may be, -1 may not", Cases.FURNISHED,
                Cases.each("chart(0, 1, -3, 3, #, 2, 3) = NONE", -1, LEAST), "chart(0, 1, -3, 3, 0, 2, 3) = 9");
        Cases.holds(6, "RUNS: band 19 may be, 20 may not", Cases.FURNISHED,
                Cases.each("chart(0, 1, -3, 3, #, 2, 3) = NONE", 20, MOST), "chart(0, 1, -3, 3, 19, 2, 3) = 9");
        Cases.holds(6, "RUNS: many 1 may be, 0 may not", Cases.FURNISHED,
                Cases.each("chart(0, 1, -3, 3, 1, #, 3) = NONE", 0, -1, LEAST), "chart(0, 1, -3, 3, 1, 1, 3) = 9");
        Cases.holds(6, "RUNS: many may be of, not above it", Cases.FURNISHED, "chart(0, 1, -3, 3, 1, 2, 1) = NONE",
                "chart(0, 1, -3, 3, 1, 3, 2) = NONE; chart(0, 1, -3, 3, 1, 4, 3) = NONE",
                "chart(0, 1, -3, 3, 1, MAX, 3) = NONE",
                "chart(0, 1, -3, 3, 1, 1, 1) = 1; chart(0, 1, -3, 3, 1, 2, 2) = 3; chart(0, 1, -3, 3, 1, 3, 3) = 9",
                "chart(0, 1, -3, 3, 1, 4, 4) = 27");
        Cases.holds(6, "RUNS: of 1 may be, 0 may not", Cases.FURNISHED,
                Cases.each("chart(0, 1, -3, 3, 1, 1, #) = NONE", 0, -1, LEAST), "chart(0, 1, -3, 3, 1, 0, 0) = NONE",
                "chart(0, 1, -3, 3, 1, 1, 1) = 1");
        Cases.holds(6, "RUNS: of 4 may be, 5 may not", Cases.FURNISHED,
                Cases.each("chart(0, 1, -3, 3, 1, 1, #) = NONE", 5, MOST), "chart(0, 1, -3, 3, 1, 5, 5) = NONE",
                "chart(0, 1, -3, 3, 1, 1, 4) = 27");
    }

    /** The number that stands for #, from low to high; the numbers of STATES with both ends. */
    private static void range(String name, String row, int[] range, int[] states) {
        int low = range[0];
        int high = range[1];
        Cases.holds(6, name + " " + low + " may be, " + (low - 1) + " may not", Cases.FURNISHED,
                Cases.each(row + " = NONE", low - 1, LEAST), Cases.each(row + " = " + states[0], low));
        Cases.holds(6, name + " " + high + " may be, " + (high + 1) + " may not", Cases.FURNISHED,
                Cases.each(row + " = NONE", high + 1, MOST), Cases.each(row + " = " + states[1], high));
    }

    private static void numbersOfOtherKinds() {
        range("SUMS: mean", "chart(0, 2, #, 5, 0, 0, 0)", new int[] {-20, 20}, new int[] {6, 6});
        range("SUMS: line", "chart(0, 2, 3, #, 0, 0, 0)", new int[] {0, 20}, new int[] {1, 21});
        range("TWO: mean", "chart(0, 3, #, 2, 0, 0, 0)", new int[] {0, 20}, new int[] {9, 9});
        range("TWO: line", "chart(0, 3, 3, #, 0, 0, 0)", new int[] {0, 4}, new int[] {1, 25});
        range("FADING: share", "chart(0, 4, #, 2, 0, 0, 0)", new int[] {1, 8}, new int[] {17, 17});
        range("FADING: line", "chart(0, 4, 3, #, 0, 0, 0)", new int[] {0, 3}, new int[] {1, 25});
        range("COUNTS: over", "chart(0, 5, #, 4, 2, 0, 0)", new int[] {-20, 20}, new int[] {10, 10});
        range("COUNTS: gap", "chart(0, 5, 3, #, 2, 0, 0)", new int[] {1, 8}, new int[] {4, 18});
        range("COUNTS: many", "chart(0, 5, 3, 4, #, 0, 0)", new int[] {1, 3}, new int[] {5, 15});
    }

    private static void of() {
        Cases.holds(7, "what 0 and 5 may be, -1 and 6 may not", Cases.FURNISHED, "of(4, 0) = 4; of(4, 5) = 0",
                "of(1, 5) = 2",
                Cases.each("of(1, #) = NONE", -1, 6, LEAST, MOST));
        Cases.holds(7, "no such CHART", Cases.FURNISHED, Cases.each("of(#, 0) = NONE; of(#, 5) = NONE", NO_CHART));
        Cases.holds(7, "a CHART without turns", "chart(5, 5, 0, 8, 3, 0, 0)", "of(5, 0) = 5; of(5, 1) = 8",
                "of(5, 2) = 0",
                "of(5, 3) = 0; of(5, 4) = 0; of(5, 5) = 0");
        Cases.holds(7, "a LOG has at most 40 SCORES, turns go on", "chart(0, 0, -20, 20, 0, 0, 0)",
                Cases.many(39, "turn(0, 1)"), "of(0, 2) = 39; turn(0, 2) = 0; of(0, 2) = 40; of(0, 4) = 40",
                "turn(0, 3) = 0",
                "of(0, 2) = 40; of(0, 4) = 41; of(0, 3) = 0; of(0, 5) = 0");
        Cases.holds(7, "why is of the latest CALL", "chart(0, 1, -4, 4, 1, 2, 2)", "turn(0, 5) = 1; of(0, 5) = 2",
                "turn(0, -5) = 1; of(0, 5) = 1; turn(0, 2) = 0; of(0, 5) = 1; turn(0, 2) = 1; of(0, 5) = 3",
                "turn(0, -2) = 0",
                "turn(0, -2) = 1; of(0, 5) = 4; of(0, 3) = 4; of(0, 4) = 6; of(0, 2) = 0");
        Cases.holds(7, "why of each other KIND", "chart(0, 2, 0, 0, 0, 0, 0); turn(0, 1) = 1; of(0, 5) = 5",
                "chart(0, 3, 0, 0, 0, 0, 0); turn(0, 1) = 1; of(0, 5) = 5; turn(0, -1) = 1; of(0, 5) = 6",
                "chart(0, 4, 8, 0, 0, 0, 0); turn(0, 1) = 1; of(0, 5) = 2; turn(0, -1) = 1; of(0, 5) = 1",
                "chart(0, 5, 0, 8, 1, 0, 0); turn(0, 1) = 0; turn(0, 1) = 1; of(0, 5) = 7; chart(0, 0, 0, 0, 0, 0, 0)",
                "of(0, 5) = 0");
    }

    private static void step() {
        Cases.holds(8, "no such CHART", Cases.FURNISHED, Cases.each("step(#, 0, 0) = NONE", NO_CHART));
        Cases.holds(8, "SCORES -20 and 20 may be, -21 and 21 may not", Cases.FURNISHED, "step(0, 0, -20) = 0",
                "step(0, 0, 20) = -15", Cases.each("step(0, 0, #) = NONE", NO_SCORE));
        int[][] charts = {{0, -4, 4, 0, 0, 0, 1}, {1, -4, 4, 1, 1, 1, 1}, {1, -4, 4, 1, 2, 3, 9}, {1, -4, 4, 1, 4, 4, 27},
            {2, 1, 0, 0, 0, 0, 1}, {2, 0, 20, 0, 0, 0, 21}, {3, 1, 0, 0, 0, 0, 1}, {3, 0, 4, 0, 0, 0, 25},
            {4, 8, 0, 0, 0, 0, 1}, {4, 1, 3, 0, 0, 0, 25}, {5, 0, 1, 1, 0, 0, 2}, {5, 0, 8, 3, 0, 0, 27}};
        for (int[] c : charts) {
            String made = String.format("chart(0, %d, %d, %d, %d, %d, %d)", c[0], c[1], c[2], c[3], c[4], c[5]);
            Cases.holds(8, "the first and the last STATE, and none beyond, of " + made, made + " = " + c[6],
                    Cases.each("step(0, #, 0) = NONE", -1, c[6], LEAST, MOST), firstAndLast(c));
        }
    }

    /** What 0 makes of the first STATE and of the last one, of the charts above. */
    private static String firstAndLast(int[] chart) {
        int last = chart[6] - 1;
        int fromFirst = 0;
        int fromLast = last;
        if (chart[0] == 1 && last > 0) {
            // The last STATE is all below: with many of them it CALLS, else the 0 is the latest one.
            fromLast = chart[4] <= 3 ? -14 : 24;
        }
        if (chart[0] == 4 && last > 0) {
            // z is -12, then 12: 7 times 12 / 8 is 10.5, and the even one of 10 and 11 is 10.
            fromFirst = 2;
            fromLast = 22;
        }
        if (chart[0] == 5) {
            fromFirst = 1;
        }
        return "step(0, 0, 0) = " + fromFirst + "; step(0, " + last + ", 0) = " + fromLast;
    }

    private static void stepByLines() {
        Cases.holds(8, "LINES: low and high do not CALL, the next ones do", "chart(0, 0, -3, 3, 0, 0, 0)",
                "step(0, 0, -3) = 0; step(0, 0, -4) = -11; step(0, 0, -20) = -11; step(0, 0, 3) = 0",
                "step(0, 0, 4) = -12",
                "step(0, 0, 20) = -12");
        Cases.holds(8, "LINES: low and high are the same", "chart(0, 0, 20, 20, 0, 0, 0); step(0, 0, 20) = 0",
                "step(0, 0, 19) = -11; chart(0, 0, -20, -20, 0, 0, 0); step(0, 0, -20) = 0; step(0, 0, -19) = -12");
        Cases.holds(8, "LINES: all SCORES lie between", "chart(0, 0, -20, 20, 0, 0, 0); step(0, 0, 20) = 0",
                "step(0, 0, -20) = 0");
    }

    private static void stepByRuns() {
        Cases.holds(8, "RUNS: at the band is the middle", "chart(0, 1, -4, 4, 1, 2, 3)", "step(0, 0, 1) = 0",
                "step(0, 0, 2) = 1; step(0, 0, -1) = 0; step(0, 0, -2) = 2");
        Cases.holds(8, "RUNS: band 0", "chart(0, 1, -4, 4, 0, 1, 1); step(0, 0, 0) = 0; step(0, 0, 1) = -13",
                "step(0, 0, -1) = -14");
        Cases.holds(8, "RUNS: band 19", "chart(0, 1, -20, 20, 19, 1, 1); step(0, 0, 19) = 0; step(0, 0, 20) = -13",
                "step(0, 0, -19) = 0; step(0, 0, -20) = -14");
        Cases.holds(8, "RUNS: first as LINES", "chart(0, 1, -4, 4, 1, 1, 2); step(0, 0, 4) = -13; step(0, 0, 5) = -12",
                "step(0, 0, -4) = -14; step(0, 0, -5) = -11; step(0, 1, 5) = -12; step(0, 2, -5) = -11");
        Cases.holds(8, "RUNS: as many call, one less do not", "chart(0, 1, -20, 20, 0, 3, 4); step(0, 1, 1) = 4",
                "step(0, 4, 1) = -13; step(0, 2, -1) = 8; step(0, 8, -1) = -14; step(0, 10, 0) = 3",
                "step(0, 10, 1) = -13");
        Cases.holds(8, "RUNS: the oldest that counts, and the one ahead of it", "chart(0, 1, -20, 20, 0, 2, 3)",
                "turn(0, 1) = 0; turn(0, 0) = 0; of(0, 1) = 3; step(0, 3, 1) = -13; turn(0, 0) = 0; of(0, 1) = 0",
                "turn(0, 1) = 0; of(0, 1) = 1");
        Cases.holds(8, "RUNS: of 4 forgets the fourth", "chart(0, 1, -20, 20, 0, 4, 4); step(0, 9, 0) = 0",
                "step(0, 18, 0) = 0; step(0, 13, 1) = -13; step(0, 13, 0) = 12; step(0, 26, -1) = -14",
                "step(0, 26, 1) = 25");
        Cases.holds(8, "RUNS: fewer SCORES since the beginning than of", "chart(0, 1, -20, 20, 0, 1, 4)",
                "step(0, 0, 1) = -13; step(0, 0, -1) = -14; chart(0, 1, -20, 20, 0, 2, 4); turn(0, 1) = 0",
                "turn(0, 1) = 1",
                "turn(0, 1) = 0; of(0, 1) = 1");
        Cases.holds(8, "RUNS: above is looked at ahead of below", "chart(0, 1, -20, 20, 0, 1, 3); step(0, 5, 0) = -13",
                "step(0, 7, 0) = -13; step(0, 8, 0) = -14; step(0, 6, 0) = -14; step(0, 6, 1) = -13");
    }

    private static void stepBySums() {
        Cases.holds(8, "SUMS: at the line it does not CALL, above it does", "chart(0, 2, 1, 8, 0, 0, 0)",
                "step(0, 0, 9) = 8; step(0, 0, 10) = -15; step(0, 8, 1) = 8; step(0, 8, 2) = -15");
        Cases.holds(8, "SUMS: not below 0", "chart(0, 2, 1, 8, 0, 0, 0)", "step(0, 5, -4) = 0; step(0, 5, -5) = 0",
                "step(0, 5, -3) = 1; step(0, 8, -20) = 0; step(0, 0, 1) = 0; step(0, 0, 0) = 0");
        Cases.holds(8, "SUMS: line 0", "chart(0, 2, 0, 0, 0, 0, 0); step(0, 0, 0) = 0; step(0, 0, 1) = -15",
                "step(0, 0, -20) = 0");
        Cases.holds(8, "SUMS: the least mean", "chart(0, 2, -20, 20, 0, 0, 0); step(0, 0, -20) = 0; step(0, 0, 0) = 20",
                "step(0, 0, 1) = -15; step(0, 20, -20) = 20; step(0, 20, -19) = -15; step(0, 20, 20) = -15");
        Cases.holds(8, "SUMS: the greatest mean", "chart(0, 2, 20, 20, 0, 0, 0); step(0, 20, 20) = 20",
                "step(0, 0, 20) = 0",
                "step(0, 20, -20) = 0; step(0, 20, 0) = 0; step(0, 20, 1) = 1");
    }

    private static void stepByTwo() {
        Cases.holds(8, "TWO: line 0", "chart(0, 3, 0, 0, 0, 0, 0); step(0, 0, 0) = 0; step(0, 0, 1) = -15",
                "step(0, 0, -1) = -16");
        Cases.holds(8, "TWO: at the line it does not CALL, above it does", "chart(0, 3, 0, 4, 0, 0, 0)",
                "step(0, 0, 4) = 20; step(0, 0, 5) = -15; step(0, 0, -4) = 4; step(0, 0, -5) = -16",
                "step(0, 24, 0) = 24",
                "step(0, 24, 1) = -15; step(0, 24, -1) = -16; step(0, 20, -20) = -16; step(0, 4, 20) = -15");
        Cases.holds(8, "TWO: neither is below 0", "chart(0, 3, 1, 4, 0, 0, 0); step(0, 0, 0) = 0; step(0, 6, 0) = 0",
                "step(0, 1, 1) = 0; step(0, 5, -1) = 0; step(0, 12, 0) = 6");
        Cases.holds(8, "TWO: the greatest mean", "chart(0, 3, 20, 4, 0, 0, 0); step(0, 24, 20) = 20",
                "step(0, 24, -20) = 4",
                "step(0, 24, 0) = 0; step(0, 0, 20) = 0; step(0, 0, -20) = 0");
    }

    private static void stepByFading() {
        Cases.holds(8, "FADING: line 0", "chart(0, 4, 1, 0, 0, 0, 0); step(0, 0, 0) = 0; step(0, 0, 1) = 0",
                "step(0, 0, -1) = 0; step(0, 0, 2) = -12; step(0, 0, -2) = -11");
        Cases.holds(8, "FADING: share 8 forgets all", "chart(0, 4, 8, 3, 0, 0, 0); step(0, 0, 3) = 24",
                "step(0, 24, 3) = 24",
                "step(0, 12, 4) = -12; step(0, 24, -3) = 0; step(0, 12, -4) = -11; step(0, 24, 0) = 12");
        Cases.holds(8, "FADING: of two as near the even one", "chart(0, 4, 1, 3, 0, 0, 0)", "step(0, 12, 1) = 12",
                "step(0, 12, 3) = 14; step(0, 12, 5) = 14; step(0, 12, -1) = 12; step(0, 12, -3) = 10",
                "step(0, 12, -5) = 10");
        Cases.holds(8, "FADING: the nearest on both sides of a half", "chart(0, 4, 3, 3, 0, 0, 0); step(0, 13, 0) = 13",
                "step(0, 11, 0) = 11; step(0, 15, 0) = 14; step(0, 9, 0) = 10; step(0, 14, 0) = 13",
                "step(0, 10, 0) = 11");
        Cases.holds(8, "FADING: a half at the line is rounded down to it", "chart(0, 4, 1, 3, 0, 0, 0)",
                "step(0, 24, 3) = 24; step(0, 24, 4) = 24; step(0, 24, 5) = -12; step(0, 0, -3) = 0",
                "step(0, 0, -4) = 0",
                "step(0, 0, -5) = -11");
        Cases.holds(8, "FADING: the ends of the SCORES", "chart(0, 4, 1, 3, 0, 0, 0); step(0, 24, 20) = -12",
                "step(0, 0, -20) = -11; step(0, 0, 20) = 12; step(0, 24, -20) = 12; step(0, 12, 20) = 22",
                "step(0, 12, -20) = 2");
    }

    private static void stepByCounts() {
        Cases.holds(8, "COUNTS: at over is no FAULT, above is", "chart(0, 5, 1, 4, 2, 0, 0); step(0, 4, 1) = 4",
                "step(0, 4, 2) = 0; step(0, 4, 20) = 0; step(0, 4, -20) = 4");
        Cases.holds(8, "COUNTS: t is gap at most", "chart(0, 5, 1, 4, 2, 0, 0)", "step(0, 0, 0) = 1; step(0, 3, 0) = 4",
                "step(0, 4, 0) = 4; step(0, 5, 0) = 6; step(0, 8, 0) = 9; step(0, 9, 0) = 9");
        Cases.holds(8, "COUNTS: t below gap, this turn counted, and gap itself", "chart(0, 5, 1, 4, 3, 0, 0)",
                "step(0, 0, 2) = 5; step(0, 2, 2) = 5; step(0, 3, 2) = 0; step(0, 4, 2) = 0; step(0, 7, 2) = 10",
                "step(0, 8, 2) = 0; step(0, 9, 2) = 0");
        Cases.holds(8, "COUNTS: r is many", "chart(0, 5, 1, 4, 2, 0, 0)", "step(0, 5, 2) = -17; step(0, 7, 2) = -17",
                "step(0, 8, 2) = 0; chart(0, 5, 0, 8, 1, 0, 0); step(0, 8, 1) = 0; step(0, 0, 1) = -17",
                "step(0, 6, 1) = -17",
                "step(0, 7, 1) = 0; chart(0, 5, 0, 8, 3, 0, 0); step(0, 18, 1) = -17; step(0, 24, 1) = -17",
                "step(0, 25, 1) = 0; step(0, 26, 1) = 0; step(0, 26, 0) = 26; step(0, 15, 1) = 18");
        Cases.holds(8, "COUNTS: gap 1 never CALLS", "chart(0, 5, 0, 1, 1, 0, 0); step(0, 1, 1) = 0; step(0, 0, 1) = 0",
                "step(0, 0, 0) = 1; step(0, 1, 0) = 1");
        Cases.holds(8, "COUNTS: over 20 has no FAULTS, over -20 all but one", "chart(0, 5, 20, 2, 1, 0, 0)",
                "step(0, 0, 20) = 1; step(0, 2, 20) = 2; chart(0, 5, -20, 2, 1, 0, 0); step(0, 0, -20) = 1",
                "step(0, 0, -19) = -17");
    }

    private static void turn() {
        Cases.holds(9, "no such CHART", Cases.FURNISHED, Cases.each("turn(#, 0) = NONE", NO_CHART));
        Cases.holds(9, "SCORES -20 and 20 may be, -21 and 21 may not", Cases.FURNISHED,
                Cases.each("turn(0, #) = NONE", NO_SCORE), "turn(0, -20) = 0; of(0, 1) = 0; turn(0, 20) = 1");
        Cases.holds(9, "at the line 0, above it 1", "chart(0, 2, 0, 3, 0, 0, 0); turn(0, 3) = 0; of(0, 1) = 3",
                "turn(0, 0) = 0; turn(0, 1) = 1; of(0, 1) = 0; of(0, 3) = 1; of(0, 4) = 3");
        Cases.holds(9, "after a CALL it is in its first STATE, of each KIND", "chart(0, 1, -4, 4, 1, 2, 3)",
                "turn(0, 2) = 0",
                "turn(0, 2) = 1; of(0, 1) = 0; chart(0, 3, 0, 4, 0, 0, 0); turn(0, -4) = 0; turn(0, -1) = 1",
                "of(0, 1) = 0",
                "chart(0, 4, 8, 3, 0, 0, 0); turn(0, 3) = 0; of(0, 1) = 24; turn(0, 4) = 1; of(0, 1) = 12",
                "chart(0, 5, 0, 4, 1, 0, 0); turn(0, 1) = 0; of(0, 1) = 0; turn(0, 1) = 1; of(0, 1) = 4");
        Cases.holds(9, "a CALL at the first turn", "chart(0, 0, 0, 0, 0, 0, 0); turn(0, 1) = 1; of(0, 2) = 0",
                "of(0, 3) = 1",
                "of(0, 4) = 1; of(0, 5) = 2; turn(0, -1) = 1; of(0, 3) = 2; of(0, 5) = 1; turn(0, 0) = 0",
                "of(0, 2) = 1");
        Cases.longRunHolds(9, "the 512th call of an object", "chart(0, 2, 0, 1, 0, 0, 0)", Cases.many(255,
                "turn(0, 1) = 0; turn(0, 1) = 1"), "of(0, 3) = 255");
    }

    private static void anew() {
        Cases.holds(10, "no such CHART", Cases.FURNISHED, Cases.each("anew(#) = NONE", NO_CHART));
        Cases.holds(10, "a CHART that is in its first STATE", "chart(0, 4, 8, 3, 0, 0, 0); anew(0) = 12; of(0, 1) = 12",
                "chart(0, 5, 0, 8, 3, 0, 0); anew(0) = 8; of(0, 1) = 8; chart(0, 0, 0, 0, 0, 0, 0); anew(0) = 0");
        Cases.holds(10, "from the last STATE", "chart(0, 4, 8, 3, 0, 0, 0); turn(0, 3); anew(0) = 24; of(0, 1) = 12",
                "of(0, 2) = 0; log(0, 0) = -100; anew(0) = 12; chart(5, 2, 0, 20, 0, 0, 0); turn(5, 20); anew(5) = 20",
                "of(5, 1) = 0; anew(5) = 0");
        Cases.holds(10, "a full LOG is empty then", "chart(0, 0, -20, 20, 0, 0, 0)", Cases.many(41, "turn(0, 7)"),
                "of(0, 2) = 40; anew(0) = 0; of(0, 2) = 0; log(0, 0) = -100; log(0, 39) = -100; turn(0, 5) = 0",
                "of(0, 2) = 1; log(0, 0) = 5; log(0, 1) = -100; of(0, 4) = 42");
        Cases.holds(10, "CALLS, turns and why stay", Cases.FURNISHED, "anew(1) = 0; of(1, 2) = 0; of(1, 3) = 1",
                "of(1, 4) = 3; of(1, 5) = 2; of(1, 0) = 0");
    }

    private static void log() {
        Cases.holds(11, "no such CHART", Cases.FURNISHED, Cases.each("log(#, 0) = -100", NO_CHART));
        Cases.holds(11, "an empty LOG", "chart(0, 0, -4, 4, 0, 0, 0)",
                Cases.each("log(0, #) = -100", -1, 0, 1, 39, 40));
        Cases.holds(11, "the oldest, the latest, and none beyond", "chart(0, 0, -20, 20, 0, 0, 0); turn(0, -20)",
                "turn(0, 0); turn(0, 20); log(0, 0) = -20; log(0, 1) = 0; log(0, 2) = 20",
                Cases.each("log(0, #) = -100", -1, 3, LEAST, MOST));
        Cases.holds(11, "40 SCORES: all are there", "chart(0, 0, -20, 20, 0, 0, 0); turn(0, 9)",
                Cases.many(38, "turn(0, 0)"),
                "turn(0, 8); log(0, 0) = 9; log(0, 1) = 0; log(0, 38) = 0; log(0, 39) = 8; log(0, 40) = -100");
        Cases.holds(11, "the 41st drives out the oldest", "chart(0, 0, -20, 20, 0, 0, 0); turn(0, 9); turn(0, 7)",
                Cases.many(38, "turn(0, 0)"), "log(0, 0) = 9; turn(0, 8); log(0, 0) = 7; log(0, 1) = 0; log(0, 38) = 0",
                "log(0, 39) = 8; log(0, 40) = -100; log(0, -1) = -100; turn(0, 6); log(0, 0) = 0; log(0, 38) = 8",
                "log(0, 39) = 6");
        Cases.holds(11, "the 81st, twice around", "chart(0, 0, -20, 20, 0, 0, 0)", Cases.many(40, "turn(0, 1)"),
                "turn(0, 2)", Cases.many(39, "turn(0, 3)"), "log(0, 0) = 2; log(0, 1) = 3; turn(0, 4); log(0, 0) = 3",
                "log(0, 38) = 3; log(0, 39) = 4; log(0, 40) = -100");
        Cases.holds(11, "a CALL empties it, and its SCORE is not there", "chart(0, 0, -4, 4, 0, 0, 0); turn(0, 3)",
                "turn(0, 5) = 1; log(0, 0) = -100; of(0, 2) = 0; turn(0, 2); log(0, 0) = 2; log(0, 1) = -100");
        Cases.holds(11, "a CALL empties a full one", "chart(0, 0, -4, 4, 0, 0, 0)", Cases.many(45, "turn(0, 3)"),
                "turn(0, 5) = 1; log(0, 0) = -100; log(0, 39) = -100; turn(0, 1); turn(0, 2); log(0, 0) = 1",
                "log(0, 1) = 2",
                "log(0, 2) = -100; of(0, 2) = 2");
        Cases.holds(11, "a new CHART has an empty one", "chart(0, 0, -20, 20, 0, 0, 0)", Cases.many(41, "turn(0, 3)"),
                "chart(0, 0, -20, 20, 0, 0, 0) = 1; log(0, 0) = -100; turn(0, 4); log(0, 0) = 4; log(0, 1) = -100");
        Cases.holds(11, "the LOG of another CHART", Cases.FURNISHED, "log(0, 0) = 1; log(0, 1) = -100; log(1, 0) = -2",
                "log(1, 1) = -100; log(2, 0) = 2; log(3, 0) = 3; log(4, 0) = 1");
    }
}
