/** Boundary cases of promises 12 to 15: SHEETS, and SCORES that a CHART gets from them or drawn from a BOOK. */
final class SheetCases {
    private static final int LEAST = Integer.MIN_VALUE;
    private static final int MOST = Integer.MAX_VALUE;
    private static final int[] NO_SHEET = {-1, 4, LEAST, MOST};
    private static final int[] NO_CHART = {-1, 5, 6, LEAST, MOST};
    private static final int[] NO_SCORE = {-21, 21, LEAST, MOST};
    private static final int[] ALL_SCORES = new int[41];

    static {
        for (int i = 0; i < 41; i++) {
            ALL_SCORES[i] = i - 20;
        }
    }

    private SheetCases() {
    }

    static void all() {
        sheet();
        put();
        run();
        runThatLacks();
        runRefused();
        draw();
        drawWraps();
        drawRefused();
    }

    private static void sheet() {
        Cases.holds(12, "SHEETS 0 and 3 may be, -1 and 4 may not",
                Cases.FURNISHED, Cases.each("sheet(#, 2) = false", NO_SHEET),
                Cases.each("sheet(#, NONE) = false", NO_SHEET), "sheet(0, 2) = true; put(0, 1, 1) = true",
                "put(0, 2, 1) = false",
                "sheet(3, 2) = true; put(3, 1, 1) = true; put(3, 2, 1) = false");
        Cases.holds(12, "40 SCORES may be, 41 may not", Cases.FURNISHED, Cases.each("sheet(0, #) = false", 41, MOST),
                "sheet(0, 40) = true; put(0, 39, 1) = true; put(0, 40, 1) = false; run(0, 0, 0, 40) = 1",
                "of(0, 4) = 41");
        Cases.holds(12, "0 SCORES may be, and -1 is missing, -2 may not", Cases.FURNISHED,
                Cases.each("sheet(0, #) = false", -2, LEAST), "sheet(0, 0) = true; put(0, 0, 1) = false",
                "run(0, 0, 0, 0) = 0",
                "sheet(0, -1) = true; put(0, 0, 1) = false; run(0, 0, 0, 0) = -3");
        Cases.holds(12, "one that is missing may be missing again", Cases.FURNISHED, "sheet(3, NONE) = true",
                "run(0, 3, 0, 0) = -3; sheet(3, NONE) = true; run(0, 3, 0, 0) = -3; sheet(3, 1) = true",
                "run(0, 3, 0, 1) = 0");
        Cases.holds(12, "all are 0 again, of the same length", Cases.FURNISHED, "chart(1, 0, -20, 20, 0, 0, 0)",
                "sheet(0, 3) = true; run(1, 0, 0, 3) = 0; log(1, 0) = 0; log(1, 1) = 0; log(1, 2) = 0",
                "log(1, 3) = -100");
        Cases.holds(12, "all are 0 again, shorter and then longer", Cases.FURNISHED, "chart(1, 0, -20, 20, 0, 0, 0)",
                "sheet(0, 1) = true; sheet(0, 3) = true; run(1, 0, 0, 3) = 0; log(1, 0) = 0; log(1, 2) = 0");
        Cases.holds(12, "all are 0 again, after it was missing or empty",
                Cases.FURNISHED, "chart(1, 0, -20, 20, 0, 0, 0)",
                "sheet(0, NONE) = true; sheet(0, 3) = true; run(1, 0, 0, 3) = 0; log(1, 0) = 0; log(1, 2) = 0",
                "put(0, 1, 5)",
                "sheet(0, 0) = true; sheet(0, 2) = true; run(1, 0, 0, 2) = 0; log(1, 4) = 0; log(1, 5) = -100");
        Cases.holds(12, "a refused length leaves the SHEET", Cases.FURNISHED, "chart(1, 0, -20, 20, 0, 0, 0)",
                "sheet(0, 41) = false; sheet(0, -2) = false; run(1, 0, 0, 3) = 0; log(1, 0) = 20; log(1, 1) = 0",
                "log(1, 2) = -20");
    }

    private static void put() {
        String reader = Cases.FURNISHED + "chart(1, 0, -20, 20, 0, 0, 0);";
        Cases.holds(13, "the first and the last of 40, and none beyond", reader, "put(1, 0, 3) = true",
                "put(1, 39, 4) = true",
                Cases.each("put(1, #, 5) = false", -1, 40, LEAST, MOST), "run(1, 1, 0, 40) = 0; log(1, 0) = 3",
                "log(1, 1) = 0; log(1, 38) = 0; log(1, 39) = 4");
        Cases.holds(13, "the last of 3, and none beyond", reader, "put(0, 2, 3) = true; put(0, 3, 5) = false",
                "run(1, 0, 0, 3) = 0; log(1, 2) = 3");
        Cases.holds(13, "SCORES -20 and 20 may be, -21 and 21 may not", reader, "put(0, 0, -20) = true",
                "put(0, 2, 20) = true",
                Cases.each("put(0, 1, #) = false", NO_SCORE), "run(1, 0, 0, 3) = 0; log(1, 0) = -20; log(1, 1) = 0",
                "log(1, 2) = 20");
        Cases.holds(13, "an empty SHEET has none", reader, Cases.each("put(2, #, 0) = false", -1, 0, 1, 39, 40));
        Cases.holds(13, "a missing SHEET has none", reader, Cases.each("put(3, #, 0) = false", -2, -1, 0, 1, 39, 40));
        Cases.holds(13, "no such SHEET", reader, Cases.each("put(#, 0, 0) = false", NO_SHEET));
    }

    private static void run() {
        Cases.holds(14, "0 SCORES from the first one, the end, beyond it", Cases.FURNISHED,
                Cases.each("run(0, 0, #, 0) = 0", 0, 2, 3, 4, 40, MOST), "of(0, 4) = 1; of(0, 1) = 1; of(0, 2) = 1");
        Cases.holds(14, "0 SCORES of an empty SHEET",
                Cases.FURNISHED, Cases.each("run(0, 2, #, 0) = 0", 0, 1, 40, MOST),
                "of(0, 4) = 1; of(0, 1) = 1; of(0, 2) = 1");
        Cases.holds(14, "all SCORES that there are", Cases.FURNISHED, "run(0, 0, 0, 3) = 1; of(0, 4) = 4; of(0, 3) = 1",
                "of(0, 1) = 0; of(0, 2) = 2; log(0, 0) = 0; log(0, 1) = -20; of(0, 5) = 5");
        Cases.holds(14, "the first one alone, the last one alone", Cases.FURNISHED, "run(1, 0, 0, 1) = 1; of(1, 5) = 2",
                "run(1, 0, 1, 1) = 0; run(1, 0, 2, 1) = 1; of(1, 5) = 1; of(1, 4) = 6; of(1, 3) = 3");
        Cases.holds(14, "40 of 40", Cases.FURNISHED, "run(0, 1, 0, 40) = 1; of(0, 4) = 41; of(0, 2) = 0",
                "run(0, 1, 0, 39) = 0",
                "of(0, 4) = 80; of(0, 2) = 39; run(0, 1, 39, 1) = 1; of(0, 2) = 0");
        Cases.holds(14, "each SCORE CALLS", "chart(0, 0, 1, 1, 0, 0, 0); sheet(0, 40); run(0, 0, 0, 40) = 40",
                "of(0, 3) = 40",
                "of(0, 2) = 0; of(0, 5) = 1");
        Cases.holds(14, "SHEETS and CHARTS at the ends", "chart(0, 0, 1, 1, 0, 0, 0); chart(5, 0, 0, 0, 0, 0, 0)",
                "sheet(0, 1); sheet(3, 2); put(3, 1, 1); run(0, 0, 0, 1) = 1; run(0, 3, 0, 2) = 1; run(5, 0, 0, 1) = 0",
                "run(5, 3, 0, 2) = 1");
    }

    private static void runThatLacks() {
        Cases.holds(14, "one SCORE lacks: it gets those that are there", Cases.FURNISHED, "run(0, 0, 0, 4) = -103",
                "of(0, 4) = 4; of(0, 3) = 1; of(0, 2) = 2; log(0, 1) = -20; of(0, 5) = 5");
        Cases.holds(14, "the last one is there, another lacks", Cases.FURNISHED, "run(1, 0, 2, 2) = -101; of(1, 4) = 4",
                "of(1, 3) = 2; of(1, 5) = 1");
        Cases.holds(14, "none is there from the end on", Cases.FURNISHED, "run(0, 0, 3, 1) = -100",
                "run(0, 0, 4, 1) = -100",
                "run(0, 0, MAX, 1) = -100; run(0, 0, MAX, MAX) = -100; of(0, 4) = 1; of(0, 1) = 1; of(0, 2) = 1");
        Cases.holds(14, "none is there on an empty SHEET", Cases.FURNISHED, "run(0, 2, 0, 1) = -100",
                "run(0, 2, 0, MAX) = -100",
                "run(0, 2, MAX, MAX) = -100; of(0, 4) = 1");
        Cases.holds(14, "41 of 40", Cases.FURNISHED, "run(0, 1, 0, 41) = -140; of(0, 4) = 41; of(0, 3) = 1");
        Cases.holds(14, "the most of all", Cases.FURNISHED, "run(0, 1, 0, MAX) = -140; of(0, 4) = 41",
                "run(0, 1, 1, MAX) = -139",
                "of(0, 4) = 80; run(0, 1, 39, MAX) = -101; of(0, 4) = 81; run(0, 1, 40, MAX) = -100; of(0, 4) = 81");
    }

    private static void runRefused() {
        Cases.holds(14, "n 0 may be, -1 may not", Cases.FURNISHED, Cases.each("run(0, 0, 0, #) = -2", -1, LEAST),
                "run(0, 0, 0, 0) = 0");
        Cases.holds(14, "from 0 may be, -1 may not", Cases.FURNISHED, Cases.each("run(0, 0, #, 1) = -2", -1, LEAST),
                Cases.each("run(0, 0, #, 0) = -2", -1, LEAST), "run(0, 0, -1, MAX) = -2; run(1, 0, 0, 1) = 1");
        Cases.holds(14, "no such SHEET", Cases.FURNISHED, Cases.each("run(0, #, 0, 1) = -2", NO_SHEET),
                Cases.each("run(0, #, 0, 0) = -2", NO_SHEET));
        Cases.holds(14, "no such CHART", Cases.FURNISHED, Cases.each("run(#, 0, 0, 1) = -2", NO_CHART),
                Cases.each("run(#, 0, 0, 0) = -2", NO_CHART));
        Cases.holds(14, "the SHEET is missing", Cases.FURNISHED, Cases.each("run(0, 3, 0, #) = -3", 0, 1, 40, MOST),
                Cases.each("run(0, 3, #, 1) = -3", 0, 1, 40, MOST));
        Cases.holds(14, "-2 goes ahead of -3", Cases.FURNISHED, "run(0, 3, 0, -1) = -2; run(0, 3, -1, 1) = -2",
                Cases.each("run(#, 3, 0, 1) = -2", NO_CHART));
    }

    private static void draw() {
        String full = Cases.each("lots(0, #, 1)", ALL_SCORES) + "chart(0, 0, -20, 20, 0, 0, 0);";
        Cases.holds(15, "1 SCORE may be drawn", full, "draw(0, 0, 1, 1) = 0; of(0, 4) = 1; log(0, 0) = 17",
                "log(0, 1) = -100");
        Cases.holds(15, "200 SCORES may be drawn", full, "draw(0, 0, 7, 200) = 0; of(0, 4) = 200; of(0, 2) = 40",
                "log(0, 0) = 20",
                "log(0, 1) = -18; log(0, 38) = 12; log(0, 39) = 18; chart(1, 0, -10, 10, 0, 0, 0)",
                "draw(1, 0, 1, 200) = 97",
                "of(1, 3) = 97; of(1, 4) = 200");
        // Whatever is counted down: by seed 6 it is even, by seed 2 it is odd.
        Cases.holds(15, "a BOOK of one lot", "chart(0, 0, -20, 20, 0, 0, 0)", "lots(3, -20, 1); draw(0, 3, 6, 1) = 0",
                "draw(0, 3, 2, 1) = 0; log(0, 0) = -20; log(0, 1) = -20; lots(3, -20, 0); lots(3, 20, 1)",
                "draw(0, 3, 6, 1) = 0; draw(0, 3, 2, 1) = 0; log(0, 2) = 20; log(0, 3) = 20");
        // The rests by 10 are 0 (seed 6), 1 (2), 2 (25), 4 (1), 5 (27), 9 (18).
        Cases.holds(15, "the first and the last lot of each SCORE", Cases.book(1, -20, 2, 0, 3, 20, 5),
                "chart(0, 0, -20, 20, 0, 0, 0); draw(0, 1, 6, 1) = 0; draw(0, 1, 2, 1) = 0; draw(0, 1, 25, 1) = 0",
                "draw(0, 1, 1, 1) = 0; draw(0, 1, 27, 1) = 0; draw(0, 1, 18, 1) = 0; log(0, 0) = -20; log(0, 1) = -20",
                "log(0, 2) = 0; log(0, 3) = 0; log(0, 4) = 20; log(0, 5) = 20");
        // The rests by 4059 are 0 (seed 584), 98 (10277), 99 (2526), 3959 (6563), 3960 (1169), 4058 (8505).
        Cases.holds(15, "the first and the last lots of the fullest BOOK", Cases.each("lots(0, #, 99)", ALL_SCORES),
                "chart(0, 0, -20, 20, 0, 0, 0)", Cases.each("draw(0, 0, #, 1) = 0", 584, 10277, 2526, 6563, 1169, 8505),
                "log(0, 0) = -20; log(0, 1) = -20; log(0, 2) = -19; log(0, 3) = 19; log(0, 4) = 20; log(0, 5) = 20");
        Cases.holds(15, "each SCORE CALLS", "lots(0, 1, 1); chart(5, 0, 0, 0, 0, 0, 0); draw(5, 0, 3, 200) = 200",
                "of(5, 3) = 200; of(5, 4) = 200; of(5, 2) = 0");
    }

    private static void drawWraps() {
        String full = Cases.each("lots(0, #, 1)", ALL_SCORES) + "chart(0, 0, -20, 20, 0, 0, 0);";
        int[][] seedsAndScores = {{0, -13, 14, -10, -9}, {1, 17, 16, -14, 18}, {2, 7, 19, -2, 4}, {-1, 13, -4, 20, 5},
            {LEAST, -5, 6, -18, -17}, {MOST, 5, 4, -13, -3}};
        String[] names = {"seed 0, no wrap at first", "seed 1, the last that does not wrap at first",
            "seed 2, the first that wraps to below 0", "seed -1, below 0 at once", "the least seed", "the greatest seed"};
        for (int i = 0; i < names.length; i++) {
            int[] s = seedsAndScores[i];
            Cases.holds(15, names[i], full, "draw(0, 0, " + s[0] + ", 4) = 0",
                    "log(0, 0) = " + s[1] + "; log(0, 1) = " + s[2] + "; log(0, 2) = " + s[3] + "; log(0, 3) = " + s[4]);
        }
        Cases.holds(15, "200 from the greatest seed", full, "chart(1, 0, -20, 0, 0, 0, 0); draw(1, 0, MAX, 200) = 110");
    }

    private static void drawRefused() {
        Cases.holds(15, "n 0 may not be, nor below",
                Cases.FURNISHED, Cases.each("draw(0, 0, 1, #) = NONE", 0, -1, LEAST));
        Cases.holds(15, "n 201 may not be, nor above",
                Cases.FURNISHED, Cases.each("draw(0, 0, 1, #) = NONE", 201, MOST));
        Cases.holds(15, "no such CHART", Cases.FURNISHED, Cases.each("draw(#, 0, 1, 1) = NONE", NO_CHART));
        Cases.holds(15, "no such BOOK", Cases.FURNISHED, Cases.each("draw(0, #, 1, 1) = NONE", -1, 4, LEAST, MOST));
        Cases.holds(15, "a BOOK that is not READY", Cases.FURNISHED, "draw(0, 3, 1, 1) = NONE; lots(3, 0, 1)",
                "draw(0, 3, 1, 1) = 0; lots(3, 0, 0); draw(0, 3, 1, 1) = NONE");
    }
}
