import java.math.BigInteger;

/** Boundary cases of promises 16 to 26: how long until a CALL, two CHARTS TOGETHER, STATES that are ALIKE, lines, turns. */
final class WaitCases {
    private static final int LEAST = Integer.MIN_VALUE;
    private static final int MOST = Integer.MAX_VALUE;
    /** CHART 5 is not there, and BOOK 3 is not READY. */
    private static final int[] NO_CHART = {-1, 5, 6, LEAST, MOST};
    private static final int[] NO_BOOK = {-1, 3, 4, LEAST, MOST};
    private static final int[] NO_STATE = {-1, 2, LEAST, MOST};
    private static final int[] NO_TURNS = {-1, 41, LEAST, MOST};
    private static final String TWO_TO_40 = "1099511627776";
    private static final int[] ALL_SCORES = new int[41];

    static {
        for (int i = 0; i < 41; i++) {
            ALL_SCORES[i] = i - 20;
        }
    }

    private WaitCases() {
    }

    static void all() {
        reached();
        mean();
        by();
        left();
        found();
        join();
        together();
        ahead();
        alike();
        kinds();
        best();
        bestOfSeveral();
        back();
        backOfFullLog();
    }

    /** What each call that looks at a CHART and a READY BOOK refuses; # stands in its place. */
    private static void noChartOrBook(int promise, String byChart, String... byBook) {
        Cases.holds(promise, "no such CHART",
                Cases.FURNISHED, Cases.each(byChart + " = NONE", NO_CHART), "answer = 4/1");
        for (int i = 0; i < byBook.length; i++) {
            Cases.holds(promise, "no such BOOK, or not READY, " + byBook[i], Cases.FURNISHED,
                    Cases.each(byBook[i] + " = NONE", NO_BOOK), "answer = 4/1");
        }
    }

    private static void reached() {
        noChartOrBook(16, "reached(#, 0, 0)", "reached(0, #, 0)");
        Cases.holds(16, "the first and the last STATE, and none beyond", Cases.FURNISHED, "reached(0, 0, 0) = 2",
                "reached(0, 0, 1) = 2", Cases.each("reached(0, 0, #) = NONE", NO_STATE));
        Cases.holds(16, "the last of 27 STATES, and none beyond", Cases.FURNISHED, "chart(5, 5, 0, 8, 3, 0, 0)",
                "reached(5, 2, 26) = 1; reached(5, 2, 27) = NONE; reached(5, 2, -1) = NONE");
        Cases.holds(16, "a BOOK is READY with one lot, and not without", Cases.FURNISHED, "reached(0, 3, 0) = NONE",
                "lots(3, 20, 1); reached(0, 3, 0) = 1; lots(3, 20, 0); reached(0, 3, 0) = NONE");
        Cases.holds(16, "a STATE alone, as every SCORE CALLS", Cases.FURNISHED, "reached(2, 0, 4) = 1",
                "reached(0, 1, 1) = 1");
        Cases.holds(16, "a STATE alone, as it stays there", Cases.FURNISHED, "reached(0, 2, 0) = 1",
                "reached(0, 2, 1) = 1");
        Cases.holds(16, "all STATES", "lots(0, -1, 1); lots(0, 0, 1); lots(0, 1, 1); chart(0, 2, 0, 20, 0, 0, 0)",
                "reached(0, 0, 0) = 21; reached(0, 0, 20) = 21; chart(1, 1, -20, 20, 0, 4, 4); reached(1, 0, 0) = 27",
                "chart(2, 5, 0, 8, 3, 0, 0); reached(2, 0, 8) = 27; chart(3, 3, 0, 4, 0, 0, 0); reached(3, 0, 0) = 15");
        Cases.holds(16, "a SCORE without LOTS leads nowhere", Cases.FURNISHED, "chart(5, 2, 0, 3, 0, 0, 0)",
                "reached(5, 0, 0) = 4; lots(0, 1, 0); reached(5, 0, 0) = 1; reached(5, 0, 3) = 4");
        Cases.holds(16, "by the ends of the SCORES", "lots(0, -20, 1); chart(0, 2, -20, 20, 0, 0, 0)",
                "reached(0, 0, 7) = 1",
                "lots(0, 20, 1); chart(1, 2, 20, 20, 0, 0, 0); reached(1, 0, 7) = 2");
    }

    private static void mean() {
        noChartOrBook(17, "mean(#, 0, 0)", "mean(0, #, 0)");
        Cases.holds(17, "the first and the last STATE, and none beyond", Cases.FURNISHED, "mean(0, 0, 0) = 1",
                "answer = 6/1",
                "mean(0, 0, 1) = 1; answer = 4/1", Cases.each("mean(0, 0, #) = NONE", NO_STATE), "answer = 4/1");
        Cases.holds(17, "1 turn, as every SCORE CALLS", Cases.FURNISHED, "mean(0, 1, 1) = 1; answer = 1/1",
                "mean(2, 0, 4) = 1; answer = 1/1");
        Cases.holds(17, "NEVER", Cases.FURNISHED, "mean(0, 2, 0) = 0; mean(0, 2, 1) = 0; mean(1, 0, 0) = 0",
                "answer = 4/1",
                "order() = -1");
        Cases.holds(17, "NEVER, with SCORES that only the line stops", "lots(0, 3, 1); lots(0, -3, 1)",
                "chart(0, 0, -3, 3, 0, 0, 0); mean(0, 0, 0) = 0; lots(0, 4, 1); mean(0, 0, 0) = 1; answer = 3/1",
                "lots(0, 4, 0); mean(0, 0, 0) = 0; answer = 3/1");
        Cases.holds(17, "NEVER with gap 1, not with gap 2", "lots(0, 1, 1); chart(0, 5, 0, 1, 1, 0, 0)",
                "mean(0, 0, 1) = 0",
                "chart(0, 5, 0, 2, 1, 0, 0); mean(0, 0, 2) = 1; answer = 2/1");
        Cases.holds(17, "lowest terms", "lots(0, 4, 4); lots(0, 0, 6); chart(0, 0, -3, 3, 0, 0, 0); mean(0, 0, 0) = 1",
                "answer = 5/2; lots(0, 4, 6); mean(0, 0, 0) = 1; answer = 2/1");
        Cases.holds(17, "by the fullest BOOK",
                Cases.each("lots(0, #, 99)", ALL_SCORES), "chart(0, 0, -20, 19, 0, 0, 0)",
                "mean(0, 0, 0) = 1; answer = 41/1; lots(0, 20, 1); mean(0, 0, 0) = 1; answer = 3961/1");
        BigInteger hundred = BigInteger.valueOf(100);
        Cases.holds(17, "21 turns in a row that are one in a hundred each", "lots(0, 1, 1); lots(0, -20, 99)",
                "chart(0, 2, 0, 20, 0, 0, 0); mean(0, 0, 0) = 1",
                "answer = " + hundred.pow(22).subtract(hundred).divide(BigInteger.valueOf(99)) + "/1",
                "mean(0, 0, 20) = 1; answer = " + hundred.pow(21) + "/1");
    }

    private static void by() {
        noChartOrBook(18, "by(#, 0, 0, 1)", "by(0, #, 0, 1)");
        Cases.holds(18, "the first and the last STATE, and none beyond", Cases.FURNISHED, "by(0, 0, 0, 1) = 1",
                "answer = 0/1",
                "by(0, 0, 1, 1) = 1; answer = 1/2", Cases.each("by(0, 0, #, 1) = NONE", NO_STATE), "answer = 1/2");
        Cases.holds(18, "0 and 40 turns may be, -1 and 41 may not", Cases.FURNISHED,
                Cases.each("by(0, 0, 0, #) = NONE", NO_TURNS), "answer = 4/1; by(0, 0, 0, 0) = 1; answer = 0/1",
                "by(0, 0, 0, 40) = 1; answer = 137405464185/137438953472");
        Cases.holds(18, "0 turns from a STATE that CALLS at once", Cases.FURNISHED, "by(0, 1, 1, 0) = 1; answer = 0/1",
                "by(0, 1, 1, 1) = 1; answer = 1/1");
        Cases.holds(18, "the last turn ahead of a sure CALL, and its turn", Cases.FURNISHED, "by(0, 1, 0, 1) = 1",
                "answer = 0/1; by(0, 1, 0, 2) = 1; answer = 1/1; by(0, 1, 0, 40) = 1; answer = 1/1");
        Cases.holds(18, "40 turns where it NEVER CALLS", Cases.FURNISHED, "by(1, 0, 0, 40) = 1; answer = 0/1");
        String long40 = BigInteger.valueOf(4059).pow(40).toString();
        Cases.holds(18, "40 turns by the fullest BOOK but for one lot", Cases.each("lots(0, #, 99)", ALL_SCORES),
                "lots(0, 20, 98); chart(0, 0, -20, 19, 0, 0, 0); by(0, 0, 0, 40) = 1", "answer = "
                + BigInteger.valueOf(2029).pow(40).subtract(BigInteger.valueOf(1980).pow(40)) + "/"
                + BigInteger.valueOf(2029).pow(40), "chart(0, 2, 0, 0, 0, 0, 0); lots(0, 20, 99); by(0, 0, 0, 40) = 1",
                "answer = " + BigInteger.valueOf(41).pow(40).subtract(BigInteger.valueOf(21).pow(40)) + "/"
                + new BigInteger(long40).divide(BigInteger.valueOf(99).pow(40)));
    }

    private static void left() {
        noChartOrBook(19, "left(#, 0, 1, 0)", "left(0, #, 1, 0)");
        Cases.holds(19, "the first and the last STATE, and none beyond", Cases.FURNISHED, "left(0, 0, 2, 0) = 1",
                "answer = 1/2",
                "left(0, 0, 2, 1) = 1; answer = 1/4", Cases.each("left(0, 0, 2, #) = NONE", NO_STATE), "answer = 1/4");
        Cases.holds(19, "0 and 40 turns may be, -1 and 41 may not", Cases.FURNISHED,
                Cases.each("left(0, 0, #, 0) = NONE", NO_TURNS), "answer = 4/1; left(0, 0, 0, 0) = 1; answer = 1/1",
                "left(0, 0, 0, 1) = 1; answer = 0/1; left(0, 0, 40, 0) = 1; answer = 165580141/" + TWO_TO_40,
                "left(0, 0, 40, 1) = 1; answer = 102334155/" + TWO_TO_40);
        Cases.holds(19, "from the first STATE, not the one it is in", Cases.FURNISHED, "of(0, 1) = 1",
                "left(0, 1, 1, 1) = 1",
                "answer = 1/1; of(4, 1) = 10; left(4, 2, 0, 8) = 1; answer = 1/1; left(4, 2, 0, 10) = 1; answer = 0/1",
                "chart(5, 5, 1, 4, 2, 0, 0); turn(5, 2); left(5, 2, 0, 4) = 1; answer = 1/1; left(5, 2, 40, 4) = 1",
                "answer = 1/1; left(5, 2, 40, 0) = 1; answer = 0/1");
        Cases.holds(19, "the last turn ahead of a sure CALL, and its turn", Cases.FURNISHED, "left(0, 1, 1, 1) = 1",
                "answer = 1/1; left(0, 1, 1, 0) = 1; answer = 0/1; left(0, 1, 2, 0) = 1; answer = 0/1",
                "left(0, 1, 2, 1) = 1",
                "answer = 0/1; left(0, 1, 40, 0) = 1; answer = 0/1");
        Cases.holds(19, "a STATE that is not REACHED", Cases.FURNISHED, "left(4, 2, 40, 0) = 1; answer = 0/1",
                "left(4, 2, 40, 16) = 1; answer = 0/1; left(4, 2, 40, 17) = NONE");
    }

    private static void found() {
        noChartOrBook(20, "found(#, 0, 1, 1)", "found(0, #, 1, 1)", "found(0, 0, 1, #)");
        Cases.holds(20, "0 and 40 turns may be, -1 and 41 may not", Cases.FURNISHED,
                Cases.each("found(0, 0, #, 1) = NONE", NO_TURNS), "answer = 4/1; found(0, 0, 0, 1) = 1; answer = 2/1",
                "found(0, 0, 40, 1) = 1; answer = 433494437/267914296");
        Cases.holds(20, "0 turns: the MEAN by the other BOOK", Cases.FURNISHED, "found(0, 1, 0, 0) = 1; answer = 6/1",
                "found(0, 2, 0, 0) = 1; answer = 6/1; found(0, 2, 0, 2) = 0");
        Cases.holds(20, "the last turn ahead of a sure CALL, and its turn", Cases.FURNISHED, "found(0, 1, 1, 0) = 1",
                "answer = 4/1; found(0, 1, 1, 1) = 1; answer = 1/1; found(0, 1, 2, 0) = 0; found(0, 1, 3, 0) = 0",
                "found(0, 1, 40, 0) = 0; answer = 1/1");
        Cases.holds(20, "a sure CALL, and the other BOOK is not READY", Cases.FURNISHED, "found(0, 1, 2, 3) = NONE",
                "found(0, 1, 2, 4) = NONE; found(0, 1, 41, 0) = NONE");
        Cases.holds(20, "NEVER by the other BOOK", Cases.FURNISHED, "found(0, 0, 0, 2) = 0; found(0, 0, 1, 2) = 0",
                "found(0, 0, 40, 2) = 0; found(1, 0, 40, 0) = 0; answer = 4/1; order() = -1");
        Cases.holds(20, "NEVER by the first BOOK alone", Cases.FURNISHED, "found(0, 2, 40, 1) = 1; answer = 2/1",
                "found(0, 2, 40, 0) = 1; answer = 6/1");
        Cases.holds(20, "STATES of the first BOOK that the other does not reach", "lots(0, 0, 1); lots(0, 1, 1)",
                "lots(1, 2, 1); chart(0, 2, 0, 4, 0, 0, 0); found(0, 0, 1, 1) = 1; answer = 5/2",
                "found(0, 0, 40, 1) = 1",
                // After 40 turns: 1, 40, 780, 9880, 91390 ways to 0 .. 4; by 2 the MEANS are 3, 2, 2, 1, 1.
                "answer = 102913/102091");
    }

    private static void join() {
        noChartOrBook(21, "join(#, 0, 0)", "join(0, 1, #)");
        Cases.holds(21, "no such second CHART", Cases.FURNISHED, Cases.each("join(0, #, 0) = NONE", NO_CHART));
        Cases.holds(21, "the same CHART twice",
                Cases.FURNISHED, Cases.each("join(#, #, 0) = NONE", 0, 1, 2, 3, 4, 5, 6, -1));
        Cases.holds(21, "CHARTS 0 and 5 may be", "lots(0, 1, 1); lots(0, -1, 1); chart(0, 2, 0, 1, 0, 0, 0)",
                "chart(5, 0, 0, 20, 0, 0, 0); join(0, 5, 0) = 1; answer = 3/2; join(5, 0, 0) = 1; answer = 3/2");
        Cases.holds(21, "1 turn, as one CALLS at every SCORE", Cases.FURNISHED, "chart(5, 0, 2, 2, 0, 0, 0)",
                "join(0, 5, 0) = 1; answer = 1/1; join(5, 1, 2) = 1; answer = 1/1");
        Cases.holds(21, "one of the two NEVER CALLS", Cases.FURNISHED, "join(0, 1, 0) = 1; answer = 6/1",
                "join(1, 0, 0) = 1",
                "answer = 6/1");
        Cases.holds(21, "NEVER, neither CALLS", Cases.FURNISHED, "join(0, 1, 2) = 0; join(1, 0, 2) = 0; answer = 4/1");
        Cases.holds(21, "from the first STATES, not those they are in", Cases.FURNISHED, "of(0, 1) = 1; of(3, 1) = 10",
                "join(0, 3, 1) = 1; answer = 2/1");
    }

    /** SUMS with line 15 beside COUNTS with gap 1, which tells whether the latest one was a FAULT, and never CALLS. */
    private static void together() {
        String two = "chart(0, 2, 0, 15, 0, 0, 0); chart(1, 5, 0, 1, 1, 0, 0); lots(0, -1, 1); lots(0, 1, 1);"
                + "lots(1, -1, 1); lots(1, 0, 1); lots(1, 1, 1); lots(2, 1, 1); by(0, 0, 15, 1);";
        // After 1 there are 1 .. 15, after -1 there are 0 .. 14; after 0 also 15.
        Cases.holds(21, "30 STATES may be, 31 are SPENT", two, "join(0, 1, 1) = -2; join(1, 0, 1) = -2; answer = 1/2",
                "join(0, 1, 0) = 1; answer = 272/1; join(1, 0, 0) = 1; answer = 272/1");
        Cases.holds(22, "30 STATES may be, 31 are SPENT", two, "ahead(0, 1, 1, 0) = -2; ahead(1, 0, 1, 1) = -2",
                "answer = 1/2",
                "ahead(0, 1, 0, 0) = 1; answer = 1/1; ahead(1, 0, 0, 0) = 1; answer = 0/1; ahead(0, 1, 0, 1) = 1",
                "answer = 0/1");
        Cases.holds(21, "SPENT by one BOOK, not by another", two, "join(0, 1, 1) = -2; join(0, 1, 2) = 1",
                "answer = 16/1",
                "join(0, 1, 1) = -2; answer = 16/1");
        Cases.holds(21, "NONE goes ahead of SPENT", two, "join(0, 0, 1) = NONE; join(0, 1, 3) = NONE",
                "join(0, 2, 1) = NONE");
        Cases.holds(22, "NONE goes ahead of SPENT", two, "ahead(0, 0, 1, 0) = NONE; ahead(0, 1, 1, 2) = NONE",
                "ahead(0, 1, 1, -1) = NONE; ahead(0, 1, 3, 0) = NONE");
        // FADING with share 8 has 7 STATES by -3 .. 3, that with share 4 more, and neither CALLS.
        String never = Cases.book(0, -3, 1, -2, 1, -1, 1, 0, 1, 1, 1, 2, 1, 3, 1)
                + "chart(0, 4, 8, 3, 0, 0, 0); chart(1, 4, 4, 3, 0, 0, 0);";
        Cases.holds(21, "more than 30 STATES are SPENT, though neither CALLS", never, "mean(0, 0, 12) = 0",
                "mean(1, 0, 12) = 0",
                "join(0, 1, 0) = -2");
        Cases.holds(22, "more than 30 STATES are SPENT, though neither CALLS", never, "ahead(0, 1, 0, 0) = -2",
                "ahead(0, 1, 0, 1) = -2; answer = 0/1");
    }

    private static void ahead() {
        noChartOrBook(22, "ahead(#, 0, 0, 0)", "ahead(0, 1, #, 0)");
        Cases.holds(22, "no such second CHART", Cases.FURNISHED, Cases.each("ahead(0, #, 0, 0) = NONE", NO_CHART));
        Cases.holds(22, "the same CHART twice",
                Cases.FURNISHED, Cases.each("ahead(#, #, 0, 0) = NONE", 0, 1, 2, 3, 4, 5, 6),
                Cases.each("ahead(#, #, 0, 1) = NONE", 0, 1, 2, 3, 4, 5, 6));
        Cases.holds(22, "which 0 and 1 may be, -1 and 2 may not", Cases.FURNISHED,
                Cases.each("ahead(0, 1, 0, #) = NONE", -1, 2, LEAST, MOST), "answer = 4/1; ahead(0, 1, 0, 0) = 1",
                "answer = 1/1; ahead(0, 1, 0, 1) = 1; answer = 0/1");
        Cases.holds(22, "CHARTS 0 and 5 may be", "lots(0, 1, 1); lots(0, -1, 1); chart(0, 2, 0, 1, 0, 0, 0)",
                "chart(5, 0, 0, 20, 0, 0, 0); ahead(0, 5, 0, 0) = 1; answer = 1/4; ahead(5, 0, 0, 0) = 1",
                "answer = 3/4");
        Cases.holds(22, "for sure, and surely not", Cases.FURNISHED, "ahead(0, 1, 1, 0) = 1; answer = 1/1",
                "ahead(1, 0, 1, 0) = 1; answer = 0/1; ahead(0, 1, 1, 1) = 1; answer = 0/1; ahead(1, 0, 1, 1) = 1",
                "answer = 0/1");
        Cases.holds(22, "always both at once", Cases.FURNISHED, "chart(5, 2, 0, 1, 0, 0, 0); ahead(0, 5, 0, 1) = 1",
                "answer = 1/1; ahead(0, 5, 0, 0) = 1; answer = 0/1; ahead(5, 0, 0, 0) = 1; answer = 0/1");
        Cases.holds(22, "NEVER, neither CALLS", Cases.FURNISHED, "ahead(0, 1, 2, 0) = 0; ahead(0, 1, 2, 1) = 0",
                "answer = 4/1",
                "order() = -1");
    }

    private static void alike() {
        noChartOrBook(23, "alike(#, 0, 0, 0)", "alike(0, #, 0, 0)");
        Cases.holds(23, "the first and the last STATE, and none beyond", Cases.FURNISHED, "alike(0, 0, 0, 1) = 0",
                "alike(0, 0, 1, 0) = 0", Cases.each("alike(0, 0, #, 0) = NONE; alike(0, 0, 0, #) = NONE", NO_STATE));
        Cases.holds(23, "a STATE and itself", Cases.FURNISHED, "alike(0, 0, 0, 0) = 1; alike(0, 0, 1, 1) = 1",
                "alike(3, 0, 24, 24) = 1; alike(3, 0, 25, 25) = NONE");
        Cases.holds(23, "no CALL ever: all are ALIKE", Cases.FURNISHED, "alike(0, 2, 0, 1) = 1",
                "alike(4, 2, 0, 16) = 1");
        Cases.holds(23, "a CALL at once from both, by other whys", Cases.FURNISHED, "alike(2, 0, 4, 8) = 1",
                "alike(2, 2, 4, 8) = 1; alike(2, 2, 4, 0) = 0");
        Cases.holds(23, "STATE 0 from the one, a CALL from the other", "lots(0, 1, 1); chart(0, 5, 0, 8, 1, 0, 0)",
                "step(0, 0, 1) = -17; step(0, 7, 1) = 0; alike(0, 0, 0, 7) = 0; alike(0, 0, 7, 0) = 0; alike(0, 0, 7, 8) = 1",
                "alike(0, 0, 0, 6) = 1; kinds(0, 0) = 2");
        Cases.holds(23, "told apart by the 21st turn alone", "lots(0, 1, 1); chart(0, 2, 0, 20, 0, 0, 0)",
                "alike(0, 0, 0, 1) = 0; alike(0, 0, 19, 20) = 0; lots(0, 1, 0); lots(0, 20, 1); alike(0, 0, 0, 1) = 0",
                "alike(0, 0, 1, 20) = 1");
        Cases.holds(23, "told apart by the ends of the SCORES alone", "chart(0, 1, -20, 20, 19, 2, 2); lots(0, 0, 1)",
                "alike(0, 0, 0, 1) = 1; alike(0, 0, 0, 2) = 1; lots(0, 20, 1); alike(0, 0, 0, 1) = 0",
                "alike(0, 0, 0, 2) = 1",
                "lots(0, 20, 0); lots(0, -20, 1); alike(0, 0, 0, 1) = 1; alike(0, 0, 0, 2) = 0");
        Cases.holds(23, "STATES that are not REACHED", Cases.FURNISHED, "alike(4, 2, 0, 8) = 1; lots(2, 2, 1)",
                // By 2 it comes up to 7 quarters and stays there; by 3 it CALLS at the third turn from 0, at the fourth from -8.
                "alike(4, 2, 0, 8) = 1; lots(2, 3, 1); alike(4, 2, 0, 8) = 0; reached(4, 2, 8) = 9");
    }

    private static void kinds() {
        noChartOrBook(24, "kinds(#, 0)", "kinds(0, #)");
        Cases.holds(24, "one STATE", Cases.FURNISHED, "kinds(1, 0) = 1; kinds(1, 2) = 1");
        Cases.holds(24, "no CALL ever", Cases.FURNISHED, "chart(5, 4, 8, 1, 0, 0, 0); reached(5, 0, 4) = 3",
                "kinds(5, 0) = 1");
        Cases.holds(24, "all 21 STATES", "lots(0, 1, 1); chart(0, 2, 0, 20, 0, 0, 0); kinds(0, 0) = 21; lots(0, -1, 1)",
                "kinds(0, 0) = 21");
        Cases.holds(24, "STATES that are not REACHED do not count", "lots(0, 2, 1); chart(0, 2, 0, 3, 0, 0, 0)",
                "alike(0, 0, 0, 1) = 1; alike(0, 0, 1, 2) = 0; kinds(0, 0) = 2; chart(0, 2, 0, 1, 0, 0, 0)",
                "kinds(0, 0) = 1",
                "chart(0, 2, 0, 2, 0, 0, 0); kinds(0, 0) = 2");
        Cases.holds(24, "from the first STATE, not the one it is in", Cases.FURNISHED, "of(0, 1) = 1; kinds(0, 1) = 2");
        Cases.holds(24, "the largest CHARTS", "lots(0, -1, 1); lots(0, 0, 1); lots(0, 1, 1)",
                "chart(0, 1, -20, 20, 0, 4, 4)",
                // Only how many of one sign come last matters: none, 1 .. 3 above, 1 .. 3 below.
                "kinds(0, 0) = 7; chart(1, 5, 0, 8, 3, 0, 0)",
                // With t 7 or 8 a FAULT makes r 0, whatever r was; the 21 others are told apart.
                "kinds(1, 0) = 22");
    }

    private static void best() {
        Cases.holds(25, "mean -20 may be, -21 may not",
                Cases.FURNISHED, Cases.each("best(#, 0, 1, 0) = -2", -21, LEAST),
                "best(-20, 0, 1, 0) = 0; answer = 1/1");
        Cases.holds(25, "mean 20 may be, 21 may not", Cases.FURNISHED, Cases.each("best(#, 0, 1, 0) = -2", 21, MOST),
                "best(20, 0, 1, 0) = NONE; answer = 4/1");
        Cases.holds(25, "at least 0 may be, -1 may not",
                Cases.FURNISHED, Cases.each("best(0, 0, 1, #) = -2", -1, LEAST),
                "best(0, 0, 1, 0) = 0; answer = 1/1");
        Cases.holds(25, "at least 1000000 may be, 1000001 may not", Cases.FURNISHED,
                Cases.each("best(0, 2, 1, #) = -2", 1000001, MOST), "best(0, 2, 1, 1000000) = 0; answer = 1/1",
                "best(0, 0, 1, 1000000) = NONE; answer = 1/1");
        Cases.holds(25, "no such BOOK, or not READY", Cases.FURNISHED, Cases.each("best(0, #, 1, 0) = -2", NO_BOOK),
                Cases.each("best(0, 0, #, 0) = -2", NO_BOOK), "answer = 4/1; order() = -1");
        Cases.holds(25, "-2 goes ahead of NONE", Cases.FURNISHED, "best(21, 0, 2, 0) = -2; best(0, 0, 2, -1) = -2",
                "best(0, 0, 2, 0) = NONE");
        // By 1 and -1 the MEAN with a line is (line + 1) (line + 2), by 1 alone it is line + 1.
        Cases.holds(25, "a MEAN that is just the least one, and one less", Cases.FURNISHED, "best(0, 0, 1, 6) = 1",
                "answer = 2/1",
                "best(0, 0, 1, 7) = 2; answer = 3/1; best(0, 0, 1, 12) = 2; answer = 3/1; best(0, 0, 1, 13) = 3",
                "answer = 4/1");
        Cases.holds(25, "line 12 is the last", Cases.FURNISHED, "best(0, 0, 1, 156) = 11; best(0, 0, 1, 157) = 12",
                "best(0, 0, 1, 182) = 12; answer = 13/1; best(0, 0, 1, 183) = NONE; answer = 13/1; order() = 0");
        Cases.holds(25, "a MEAN between two wholes", "lots(0, 0, 3); lots(0, 1, 2); lots(1, 1, 1)",
                "best(0, 0, 1, 2) = 0",
                "answer = 1/1; best(0, 0, 1, 3) = 1; answer = 2/1; best(0, 0, 1, 5) = 1; best(0, 0, 1, 6) = 2",
                "answer = 3/1");
        Cases.holds(25, "a MEAN just above 1000000", "lots(0, 1, 1); lots(0, -20, 99); lots(1, 1, 1)",
                "best(0, 0, 1, 10100) = 1; best(0, 0, 1, 10101) = 2; best(0, 0, 1, 1000000) = 2; answer = 3/1");
    }

    private static void bestOfSeveral() {
        Cases.holds(25, "NEVER by a is enough", Cases.FURNISHED, "best(0, 2, 0, 1000000) = 0; answer = 2/1");
        Cases.holds(25, "NEVER by b is none", Cases.FURNISHED, "best(0, 0, 2, 0) = NONE; best(0, 2, 2, 0) = NONE",
                "answer = 4/1; order() = -1");
        Cases.holds(25, "of several the least line", Cases.FURNISHED, "lots(3, 20, 1); best(0, 2, 3, 0) = 0",
                "answer = 1/1",
                "best(0, 0, 3, 50) = 6; answer = 1/1; best(0, 0, 3, 57) = 7; answer = 1/1");
        Cases.holds(25, "a mean of -20 CALLS at once by all but -20", Cases.FURNISHED, "best(-20, 0, 0, 1) = 0",
                "answer = 1/1",
                "best(-20, 0, 0, 2) = NONE; lots(3, -20, 1); best(-20, 3, 0, 1000000) = 0; best(-20, 0, 3, 0) = NONE");
        Cases.holds(25, "a mean of 20 NEVER CALLS", Cases.FURNISHED, "lots(3, 20, 9); best(20, 3, 3, 0) = NONE",
                "answer = 4/1");
        Cases.holds(25, "a mean of 19 CALLS by 20 alone", "lots(0, 20, 1); best(19, 0, 0, 13) = 12; answer = 13/1",
                "best(19, 0, 0, 14) = NONE; answer = 13/1");
        Cases.holds(25, "the same BOOK twice", Cases.FURNISHED, "best(0, 0, 0, 6) = 1; answer = 6/1",
                "best(0, 1, 1, 13) = 12",
                "answer = 13/1; best(0, 1, 1, 14) = NONE");
    }

    private static void back() {
        noChartOrBook(26, "back(#, 0, 0)", "back(0, #, 0)", "back(0, 0, #)");
        Cases.holds(26, "an empty LOG", Cases.FURNISHED, "chart(5, 0, -20, 20, 0, 0, 0); back(5, 0, 1) = 0",
                "back(5, 2, 2) = 0");
        Cases.holds(26, "an empty LOG after a CALL, after anew", Cases.FURNISHED, "turn(0, 20); back(0, 2, 2) = 0",
                "anew(1)",
                "back(1, 2, 2) = 0");
        Cases.holds(26, "turn 0 and turn n", Cases.FURNISHED, "back(0, 0, 1) = 0; back(0, 1, 0) = 1; back(0, 2, 1) = 0",
                "back(0, 1, 2) = 1");
        Cases.holds(26, "all products are 0", Cases.FURNISHED, "back(0, 2, 2) = NONE; back(1, 0, 1) = NONE");
        Cases.holds(26, "one product alone is not 0", "lots(0, 0, 1); lots(1, 1, 1); chart(0, 0, -20, 20, 0, 0, 0)",
                "turn(0, 0); turn(0, 0); turn(0, 1); back(0, 0, 1) = 2; back(0, 1, 0) = NONE; turn(0, 0)",
                "back(0, 0, 1) = NONE",
                "lots(1, 0, 1); back(0, 0, 1) = 2");
        Cases.holds(26, "of several the least", "lots(0, 0, 1); lots(1, 0, 99); chart(0, 0, -20, 20, 0, 0, 0)",
                "turn(0, 0)",
                "turn(0, 0); back(0, 0, 1) = 0; back(0, 0, 0) = 0; back(0, 1, 0) = 0");
        Cases.holds(26, "of several later ones the least", Cases.book(0, 0, 3, 1, 1), Cases.book(1, 0, 1, 1, 3),
                // By turns 0, 1, 0, 1: the products are best at 1 and at 3.
                "chart(0, 0, -20, 20, 0, 0, 0); turn(0, 0); turn(0, 1); turn(0, 0); turn(0, 1); back(0, 0, 1) = 1");
        Cases.holds(26, "chances, not LOTS", Cases.book(0, 0, 1), Cases.book(1, 0, 50, 1, 50),
                "chart(0, 0, -20, 20, 0, 0, 0); turn(0, 0); back(0, 0, 1) = 1; back(0, 1, 0) = 0");
    }

    private static void backOfFullLog() {
        String books = Cases.book(0, 0, 99, 1, 98) + Cases.book(1, 0, 98, 1, 99) + "chart(0, 0, -20, 20, 0, 0, 0);";
        Cases.holds(26, "a LOG of 40, all by a or all by b", books, Cases.many(40, "turn(0, 0)"), "back(0, 0, 1) = 40",
                "back(0, 1, 0) = 0");
        Cases.holds(26, "a LOG of 40, changed ahead of the last one", books, Cases.many(39, "turn(0, 0)"), "turn(0, 1)",
                "back(0, 0, 1) = 39; back(0, 1, 0) = 0");
        Cases.holds(26, "41 SCORES: the first one is forgotten", books, "turn(0, 0)", Cases.many(39, "turn(0, 1)"),
                "back(0, 0, 1) = 1; turn(0, 1); back(0, 0, 1) = 0");
        Cases.holds(26, "the SCORE that makes all 0 is forgotten", books, "turn(0, 5)", Cases.many(39, "turn(0, 1)"),
                "back(0, 0, 1) = NONE; turn(0, 0); back(0, 0, 1) = 0; back(0, 1, 0) = 39");
    }
}
