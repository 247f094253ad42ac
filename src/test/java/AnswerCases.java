import java.math.BigInteger;

/** Boundary cases of promises 27 to 32: the ANSWER read and ordered, images. */
final class AnswerCases {
    private static final int LEAST = Integer.MIN_VALUE;
    private static final int MOST = Integer.MAX_VALUE;
    private static final int[] NO_SIDE = {-1, 2, LEAST, MOST};
    private static final int[] NO_PLACE = {-1, 2, LEAST, MOST};
    /** It CALLS with 1 alone, one in two: left after n turns is 1 / 2^n, and by n turns it is (2^n - 1) / 2^n. */
    private static final String HALVES = "lots(0, 1, 1); lots(0, -1, 1); chart(0, 0, -20, 0, 0, 0, 0);";

    private AnswerCases() {
    }

    static void all() {
        length();
        bits();
        times();
        timesAtMost();
        order();
        image();
        again();
        againOfFull();
    }

    /** SUMS that need line and 1 SCORES of 1 in a row, each one in a hundred: MEAN from the last STATE is 100^(line + 1). */
    private static String hundreds(int line) {
        return "lots(0, 1, 1); lots(0, -20, 99); chart(0, 2, 0, " + line + ", 0, 0, 0); mean(0, 0, " + line + ");";
    }

    private static void length() {
        Cases.holds(27, "which 0 and 1 may be, -1 and 2 may not", Cases.FURNISHED, "length(0) = 3; length(1) = 1",
                Cases.each("length(#) = NONE", NO_SIDE));
        Cases.holds(27, "0 has no bits, 1 has one", HALVES, "length(0) = 0; length(1) = 1; left(0, 0, 0, 0) = 1",
                "length(0) = 1",
                "length(1) = 1; by(0, 0, 0, 0) = 1; length(0) = 0; length(1) = 1");
        for (int n : new int[] {1, 29, 30, 31, 32, 33, 40}) {
            Cases.holds(27, "2^" + n + " and one less", HALVES, "left(0, 0, " + n + ", 0) = 1; length(0) = 1",
                    "length(1) = " + (n + 1) + "; by(0, 0, 0, " + n + ") = 1; length(0) = " + n + "; length(1) = " + (n + 1));
        }
    }

    private static void bits() {
        Cases.holds(28, "which 0 and 1 may be, -1 and 2 may not", Cases.FURNISHED, "bits(0, 0) = 4; bits(1, 0) = 1",
                Cases.each("bits(#, 0) = 0; bits(#, -1) = 0", NO_SIDE));
        Cases.holds(28, "k 0 may be, -1 may not",
                Cases.FURNISHED, Cases.each("bits(0, #) = 0; bits(1, #) = 0", -1, -2, LEAST));
        Cases.holds(28, "beyond its bits all are 0", Cases.FURNISHED,
                Cases.each("bits(0, #) = 0; bits(1, #) = 0", 1, 2, 30, 63, 64, 1 << 26, 1 << 27, 1 << 30, MOST));
        Cases.holds(28, "2^31 is below 0 as an int", HALVES, "left(0, 0, 31, 0) = 1; bits(1, 0) = -2147483648",
                "bits(1, 1) = 0",
                "by(0, 0, 0, 31) = 1; bits(0, 0) = 2147483647; bits(0, 1) = 0");
        Cases.holds(28, "2^32 is the first bit of the next ones", HALVES, "left(0, 0, 32, 0) = 1; bits(1, 0) = 0",
                "bits(1, 1) = 1",
                "bits(1, 2) = 0; by(0, 0, 0, 32) = 1; bits(0, 0) = -1; bits(0, 1) = 0; by(0, 0, 0, 33) = 1",
                "bits(0, 0) = -1",
                "bits(0, 1) = 1");
        // 100^21 is 2^42 times 5^42.
        BigInteger number = BigInteger.valueOf(100).pow(21);
        StringBuilder rows = new StringBuilder();
        for (int k = 0; k < 7; k++) {
            rows.append("bits(0, " + k + ") = " + number.shiftRight(32 * k).intValue() + ";");
        }
        Cases.holds(28, "all bits of a long one", hundreds(20), "length(0) = " + number.bitLength(), rows.toString());
    }

    private static void times() {
        Cases.holds(29, "0 and 1000000 may be, -1 and 1000001 may not", Cases.FURNISHED, "times(0) = 0",
                "times(1000000) = 4000000",
                Cases.each("times(#) = NONE", -1, 1000001, LEAST, MOST));
        Cases.holds(29, "the ANSWER is 0", "times(0) = 0; times(1) = 0; times(1000000) = 0; times(1000001) = NONE");
        Cases.holds(29, "the whole part of the product, not of the ANSWER", "lots(0, 1, 2); lots(0, 0, 3)",
                "chart(0, 0, -20, 0, 0, 0, 0); mean(0, 0, 0) = 1; answer = 5/2; times(0) = 0; times(1) = 2",
                "times(2) = 5",
                "times(3) = 7; times(999999) = 2499997; times(1000000) = 2500000");
        Cases.holds(29, "the last that is below 1, and the first that is not", HALVES, "left(0, 0, 20, 0) = 1",
                "times(1000000) = 0; left(0, 0, 19, 0) = 1; times(524287) = 0; times(524288) = 1; times(1000000) = 1");
        Cases.holds(29, "a whole part beyond an int", hundreds(4), "answer = 10000000000/1; times(1) = 10000000000",
                "times(1000000) = 10000000000000000");
    }

    private static void timesAtMost() {
        Cases.holds(29, "10^12 times 999999 and 1000000", hundreds(5), "times(999999) = 999999000000000000",
                "times(1000000) = 1000000000000000000");
        Cases.holds(29, "10^16 times 99, 100, 101", hundreds(7), "times(99) = 990000000000000000",
                "times(100) = 1000000000000000000; times(101) = 1000000000000000000; times(116) = 1000000000000000000");
        Cases.holds(29, "10^18 itself", hundreds(8), "times(0) = 0; times(1) = 1000000000000000000",
                "times(2) = 1000000000000000000; times(1000000) = 1000000000000000000");
        Cases.holds(29, "10^18 less a hundred, and above it", "lots(0, 1, 1); lots(0, -20, 99)",
                "chart(0, 2, 0, 7, 0, 0, 0)",
                "mean(0, 0, 0) = 1; times(99) = 999999999999999900; times(100) = 1000000000000000000");
        Cases.holds(29, "far above", hundreds(20), "times(0) = 0; times(1) = 1000000000000000000",
                "times(1000000) = 1000000000000000000; times(-1) = NONE");
    }

    private static void order() {
        Cases.holds(30, "ahead of any ANSWER", "order() = 0");
        Cases.holds(30, "the first one is beside 0 / 1", HALVES, "left(0, 0, 40, 0) = 1; order() = 1");
        Cases.holds(30, "the first one is 0 / 1 itself", HALVES, "by(0, 0, 0, 0) = 1; order() = 0; by(0, 0, 0, 1) = 1",
                "order() = 1; by(0, 0, 0, 0) = 1; order() = -1");
        Cases.holds(30, "the same one again", HALVES, "left(0, 0, 3, 0) = 1; left(0, 0, 3, 0) = 1; order() = 0");
        Cases.holds(30, "by a hair", HALVES, "left(0, 0, 39, 0) = 1; left(0, 0, 40, 0) = 1; order() = -1",
                "by(0, 0, 0, 39) = 1",
                "by(0, 0, 0, 40) = 1; order() = 1; by(0, 0, 0, 39) = 1; order() = -1");
        Cases.holds(30, "calls that tell none", Cases.FURNISHED, "order() = -1; mean(0, 2, 0) = 0",
                "mean(9, 0, 0) = NONE",
                "by(0, 0, 0, 41) = NONE; left(0, 0, -1, 0) = NONE; found(0, 1, 2, 0) = 0; join(0, 0, 0) = NONE",
                "ahead(0, 1, 2, 0) = 0; best(0, 0, 2, 0) = NONE; best(21, 0, 0, 0) = -2; reached(0, 0, 0) = 2",
                "alike(0, 0, 0, 0) = 1; kinds(0, 0) = 2; back(0, 0, 1) = 0; order() = -1");
        Cases.holds(30, "asking for it changes nothing", Cases.FURNISHED, "order() = -1; order() = -1; times(3) = 12",
                "order() = -1");
        Cases.holds(30, "each call that tells one", Cases.FURNISHED, "mean(0, 0, 0) = 1; order() = 1",
                "by(0, 0, 1, 1) = 1",
                "order() = -1; left(0, 0, 0, 0) = 1; order() = 1; found(0, 0, 0, 1) = 1; order() = 1",
                "join(0, 1, 0) = 1",
                "order() = 1; ahead(0, 1, 0, 0) = 1; order() = -1; best(0, 0, 1, 2) = 0; order() = 0",
                "best(0, 0, 1, 3) = 1",
                "order() = 1");
        Cases.holds(30, "the longest beside the shortest", hundreds(20), "order() = 1; by(0, 0, 0, 0) = 1",
                "order() = -1",
                "mean(0, 0, 0) = 1; order() = 1; mean(0, 0, 20) = 1; order() = -1");
    }

    private static void image() {
        Cases.holds(31, "places 0 and 1 may be, -1 and 2 may not",
                Cases.FURNISHED, Cases.each("image(#) = false", NO_PLACE),
                "image(0) = true; image(1) = true");
        Cases.holds(31, "a refused place keeps nothing", "lots(0, 0, 1)", Cases.each("image(#) = false", NO_PLACE),
                "again(0) = false; again(1) = false; lot(0, 0) = 1");
        Cases.holds(31, "an image of a new object", "image(1) = true; lots(0, 0, 1); chart(0, 0, 0, 0, 0, 0, 0)",
                "sheet(0, 1)",
                "again(0) = false; again(1) = true; whole(0) = 0; of(0, 0) = NONE; put(0, 0, 0) = false");
        Cases.holds(31, "an image in the place of another", "lots(0, 0, 1); image(0) = true; lots(0, 0, 2)",
                "image(0) = true",
                "lots(0, 0, 3); again(0) = true; lot(0, 0) = 2; again(1) = false");
        Cases.holds(31, "one place does not touch the other", "lots(0, 0, 1); image(0) = true; lots(0, 0, 2)",
                "image(1) = true",
                "lots(0, 0, 3); again(0) = true; lot(0, 0) = 1; again(1) = true; lot(0, 0) = 2; again(0) = true",
                "lot(0, 0) = 1");
        Cases.holds(31, "it leaves all as it is", Cases.FURNISHED, "image(1) = true; whole(0) = 2; of(0, 1) = 1",
                "log(4, 0) = 1",
                "answer = 4/1; order() = -1; run(1, 0, 0, 3) = 2");
    }

    private static void again() {
        Cases.holds(32, "places 0 and 1 may be, -1 and 2 may not", Cases.FURNISHED, "image(1)",
                Cases.each("again(#) = false", NO_PLACE), "again(0) = true; again(1) = true");
        Cases.holds(32, "nothing was kept there", Cases.FURNISHED, "again(1) = false; of(0, 1) = 1; again(0) = true",
                "again(1) = false");
        Cases.holds(32, "twice, with changes between", "lots(0, 0, 1); image(0); lots(0, 0, 9); again(0) = true",
                "lot(0, 0) = 1",
                "lots(0, 0, 8); again(0) = true; lot(0, 0) = 1; again(0) = true; lot(0, 0) = 1");
        Cases.holds(32, "the ANSWERS stay", Cases.FURNISHED, "again(0) = true; answer = 4/1; order() = -1",
                "times(2) = 8");
        Cases.holds(32, "the ANSWERS of an object that was new", "image(0)", HALVES, "left(0, 0, 3, 0) = 1",
                "left(0, 0, 4, 0) = 1",
                "again(0) = true; answer = 1/16; order() = -1; left(0, 0, 4, 0) = NONE; answer = 1/16");
        Cases.holds(32, "a CHART that was not there is not there again", "image(0); chart(5, 2, 0, 3, 0, 0, 0)",
                "turn(5, 1)",
                "again(0) = true; of(5, 0) = NONE; turn(5, 0) = NONE; anew(5) = NONE; log(5, 0) = -100",
                "step(5, 0, 0) = NONE");
        Cases.holds(32, "a SHEET that was missing or empty is so again", "sheet(1, 0); image(0); sheet(0, 2)",
                "sheet(1, 2)",
                "chart(0, 0, 0, 0, 0, 0, 0); again(0) = true; put(0, 0, 0) = false; put(1, 0, 0) = false",
                "chart(0, 0, 0, 0, 0, 0, 0); run(0, 0, 0, 0) = -3; run(0, 1, 0, 0) = 0");
        Cases.holds(32, "a BOOK that was not READY is not READY again", "chart(0, 0, 0, 0, 0, 0, 0); image(1)",
                "lots(3, 0, 1)",
                "reached(0, 3, 0) = 1; again(1) = true; reached(0, 3, 0) = NONE; whole(3) = 0");
        Cases.holds(32, "the STATE of each CHART, the last one too", Cases.FURNISHED, "turn(4, 4); of(4, 1) = 15",
                "image(1)",
                "anew(0); anew(2); anew(3); anew(4); again(1) = true; of(0, 1) = 1; of(2, 1) = 1; of(3, 1) = 10",
                "of(4, 1) = 15",
                "chart(5, 2, 0, 20, 0, 0, 0); turn(5, 20); image(1); anew(5); again(1) = true; of(5, 1) = 20",
                "turn(5, 1) = 1");
        Cases.holds(32, "a CHART of another KIND, with CALLS, turns and why", Cases.FURNISHED, "image(1)",
                "chart(1, 5, 0, 8, 3, 0, 0); turn(1, 1); again(1) = true; of(1, 0) = 0; of(1, 1) = 0; of(1, 2) = 1",
                "of(1, 3) = 1; of(1, 4) = 3; of(1, 5) = 2; log(1, 0) = -2; log(1, 1) = -100; step(1, 0, 5) = -12",
                "step(1, 0, 4) = 0",
                "step(1, 1, 0) = NONE");
    }

    private static void againOfFull() {
        Cases.holds(32, "a full LOG that went around", "chart(0, 0, -20, 20, 0, 0, 0)", Cases.many(43, "turn(0, 1)"),
                "turn(0, 2); image(0); turn(0, 3); anew(0); turn(0, 4); again(0) = true; of(0, 2) = 40; of(0, 4) = 44",
                "log(0, 0) = 1; log(0, 38) = 1; log(0, 39) = 2; log(0, 40) = -100; turn(0, 5) = 0; log(0, 38) = 2",
                "log(0, 39) = 5");
        Cases.holds(32, "a full SHEET", "sheet(3, 40); put(3, 39, 7); image(1); put(3, 39, 8); put(3, 0, 9)",
                "sheet(3, 1)",
                "again(1) = true; put(3, 40, 0) = false; chart(0, 0, -20, 20, 0, 0, 0); run(0, 3, 0, 41) = -140",
                "log(0, 0) = 0; log(0, 39) = 7");
        Cases.holds(32, "what is done after it is not in the image", "sheet(0, 1); lots(0, 0, 1)",
                "chart(0, 2, 0, 3, 0, 0, 0)",
                "image(0); again(0) = true; put(0, 0, 3); lots(0, 0, 2); turn(0, 2); again(0) = true; lot(0, 0) = 1",
                "of(0, 1) = 0; of(0, 4) = 0; run(0, 0, 0, 1) = 0; of(0, 1) = 0");
    }
}
