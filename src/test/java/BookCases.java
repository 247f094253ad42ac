/** Boundary cases of promises 1 to 5: a new object, BOOKS and their LOTS. */
final class BookCases {
    private static final int LEAST = Integer.MIN_VALUE;
    private static final int MOST = Integer.MAX_VALUE;
    private static final int[] NO_BOOK = {-1, 4, LEAST, MOST};
    private static final int[] NO_SCORE = {-21, 21, LEAST, MOST};
    private static final int[] ALL_SCORES = new int[41];

    static {
        for (int i = 0; i < 41; i++) {
            ALL_SCORES[i] = i - 20;
        }
    }

    private BookCases() {
    }

    static void all() {
        newObject();
        lots();
        lot();
        whole();
        add();
        addRefused();
    }

    private static void newObject() {
        Cases.holds(1, "BOOKS are empty at first", Cases.each("whole(#) = 0", 0, 1, 2, 3),
                Cases.each("lot(0, #) = 0", ALL_SCORES), Cases.each("lot(1, #) = 0", ALL_SCORES),
                Cases.each("lot(2, #) = 0", ALL_SCORES), Cases.each("lot(3, #) = 0", ALL_SCORES));
        for (int c = 0; c < 6; c++) {
            Cases.holds(1, "there is no CHART " + c + " at first", Cases.each("of(" + c + ", #) = NONE", 0, 1, 2, 3, 4, 5),
                    Cases.each("step(#, 0, 0) = NONE; turn(#, 0) = NONE; anew(#) = NONE; log(#, 0) = -100", c),
                    Cases.each("run(#, 0, 0, 0) = -2", c));
        }
        for (int s = 0; s < 4; s++) {
            Cases.holds(1, "SHEET " + s + " is missing at first", "chart(0, 0, -20, 20, 0, 0, 0)",
                    Cases.each("put(#, 0, 0) = false; run(0, #, 0, 0) = -3; run(0, #, 0, 1) = -3", s));
        }
        Cases.holds(1, "the ANSWER is 0 / 1 at first", "answer = 0/1; length(0) = 0; length(1) = 1; bits(0, 0) = 0",
                "bits(1, 0) = 1; times(1) = 0; times(1000000) = 0; order() = 0");
        Cases.holds(1, "nothing is kept at first", "again(0) = false; again(1) = false");
    }

    private static void lots() {
        Cases.holds(2, "0 LOTS may be, -1 may not", "lots(0, 0, 5); lots(0, 0, 0) = true; lot(0, 0) = 0",
                "lots(0, 0, 5)", Cases.each("lots(0, 0, #) = false", -1, LEAST), "lot(0, 0) = 5; whole(0) = 5");
        Cases.holds(2, "99 LOTS may be, 100 may not", "lots(0, 0, 99) = true; lot(0, 0) = 99",
                Cases.each("lots(0, 0, #) = false", 100, MOST), "lot(0, 0) = 99; whole(0) = 99");
        Cases.holds(2, "SCORE -20 may be, -21 may not", "lots(1, -20, 3) = true; lot(1, -20) = 3",
                Cases.each("lots(1, #, 4) = false", -21, LEAST), "whole(1) = 3");
        Cases.holds(2, "SCORE 20 may be, 21 may not", "lots(1, 20, 3) = true; lot(1, 20) = 3",
                Cases.each("lots(1, #, 4) = false", 21, MOST), "whole(1) = 3");
        Cases.holds(2, "BOOK 0 may be, -1 may not", "lots(0, 1, 2) = true; lot(0, 1) = 2",
                Cases.each("lots(#, 1, 4) = false", -1, LEAST));
        Cases.holds(2, "BOOK 3 may be, 4 may not", "lots(3, 1, 2) = true; lot(3, 1) = 2",
                Cases.each("lots(#, 1, 4) = false", 4, MOST));
        Cases.holds(2, "LOTS are told anew, not added", "lots(2, 7, 99); lots(2, 7, 99) = true; lot(2, 7) = 99",
                "whole(2) = 99; lots(2, 7, 1) = true; lot(2, 7) = 1; whole(2) = 1");
        Cases.holds(2, "a SCORE and its neighbours, a BOOK and its neighbours", "lots(1, 0, 9); lot(1, -1) = 0",
                "lot(1, 1) = 0; lot(0, 0) = 0; lot(2, 0) = 0; whole(0) = 0; whole(1) = 9; whole(2) = 0");
    }

    private static void lot() {
        Cases.holds(3, "LOTS of the least and the greatest SCORE", "lots(0, -20, 1); lots(0, 20, 99); lot(0, -20) = 1",
                "lot(0, 20) = 99; lot(0, -19) = 0; lot(0, 19) = 0");
        Cases.holds(3, "no such SCORE", "lots(0, -20, 1); lots(0, 20, 99)", Cases.each("lot(0, #) = NONE", NO_SCORE));
        Cases.holds(3, "no such BOOK", "lots(0, 0, 1); lots(3, 0, 2); lot(0, 0) = 1; lot(3, 0) = 2",
                Cases.each("lot(#, 0) = NONE", NO_BOOK));
    }

    private static void whole() {
        Cases.holds(4, "an empty BOOK", "whole(0) = 0; lots(0, 4, 3); lots(0, 4, 0); whole(0) = 0");
        Cases.holds(4, "the fullest BOOK", Cases.each("lots(3, #, 99)", ALL_SCORES), "whole(3) = 4059; whole(2) = 0");
        Cases.holds(4, "no such BOOK", "lots(0, 0, 1); lots(3, 0, 2); whole(0) = 1; whole(3) = 2",
                Cases.each("whole(#) = NONE", NO_BOOK));
        Cases.holds(4, "a refused number of LOTS is not counted", "lots(0, 0, 7); lots(0, 0, 100) = false",
                "whole(0) = 7");
    }

    private static void add() {
        Cases.holds(5, "the sum 20 may be", Cases.book(0, 10, 2), Cases.book(1, 10, 3), "add(0, 1, 2) = true",
                "lot(2, 20) = 6; whole(2) = 6");
        Cases.holds(5, "the sum -20 may be", Cases.book(0, -10, 2), Cases.book(1, -10, 3), "add(0, 1, 2) = true",
                "lot(2, -20) = 6; whole(2) = 6");
        Cases.holds(5, "the ends with 0", Cases.book(0, -20, 2, 20, 3), Cases.book(1, 0, 4), "add(0, 1, 2) = true",
                "lot(2, -20) = 8; lot(2, 20) = 12; whole(2) = 20; add(1, 0, 3) = true; lot(3, -20) = 8",
                "lot(3, 20) = 12");
        Cases.holds(5, "the ends come together at 0",
                Cases.book(0, -20, 3), Cases.book(1, 20, 5), "add(0, 1, 0) = true",
                "lot(0, 0) = 15; lot(0, -20) = 0; whole(0) = 15; lot(1, 20) = 5");
        Cases.holds(5, "99 LOTS may be, of one pair", Cases.book(0, 0, 9), Cases.book(1, 3, 11), "add(0, 1, 2) = true",
                "lot(2, 3) = 99");
        Cases.holds(5, "99 LOTS may be, of several pairs", Cases.book(0, 0, 5, 1, 7), Cases.book(1, 0, 7, 1, 10),
                "add(0, 1, 2) = true; lot(2, 0) = 35; lot(2, 1) = 99; lot(2, 2) = 70; whole(2) = 204");
        Cases.holds(5, "a BOOK without LOTS has no sums", Cases.book(0, 20, 99, -20, 99), Cases.book(2, 5, 5),
                "add(0, 1, 2) = true; whole(2) = 0; lot(2, 5) = 0");
        Cases.holds(5, "two BOOKS without LOTS", Cases.book(2, 5, 5), "add(0, 1, 2) = true; whole(2) = 0",
                "add(3, 3, 3) = true; whole(3) = 0");
        Cases.holds(5, "onto the first, the second, all one", Cases.book(0, 1, 2), Cases.book(1, 2, 3),
                "add(0, 1, 0) = true; lot(0, 3) = 6; whole(0) = 6; add(0, 1, 1) = true; lot(1, 5) = 18; whole(1) = 18",
                "add(2, 2, 2) = true", Cases.book(2, -1, 1, 1, 2), "add(2, 2, 2) = true; lot(2, -2) = 1; lot(2, 0) = 4",
                "lot(2, 2) = 4; lot(2, -1) = 0; lot(2, 1) = 0; whole(2) = 9");
        Cases.holds(5, "BOOKS 0 and 3 may be at each place", Cases.book(0, 1, 2), Cases.book(3, 2, 3),
                "add(0, 3, 3) = true; lot(3, 3) = 6; add(3, 0, 0) = true; lot(0, 4) = 12; whole(0) = 12; whole(3) = 6");
    }

    private static void addRefused() {
        String target = Cases.book(2, -20, 1, 4, 5, 20, 2);
        Cases.holds(5, "the sum 21 may not be", Cases.book(0, 10, 2), Cases.book(1, 11, 3), target,
                "add(0, 1, 2) = false; add(1, 0, 2) = false; add(1, 0, 0) = false; lot(2, 4) = 5");
        Cases.holds(5, "the sum -21 may not be", Cases.book(0, -10, 2), Cases.book(1, -11, 3), target,
                "add(0, 1, 2) = false; add(1, 0, 2) = false; add(1, 0, 1) = false; lot(2, 4) = 5");
        Cases.holds(5, "the sums 40 and -40 may not be", Cases.book(0, 20, 1), Cases.book(1, -20, 1), target,
                "add(0, 0, 2) = false; add(1, 1, 2) = false; add(0, 0, 0) = false");
        Cases.holds(5, "one sum beyond the SCORES among many", Cases.book(0, 0, 1, 1, 1), Cases.book(1, -5, 1, 20, 1),
                target, "add(0, 1, 2) = false; add(1, 0, 1) = false; lots(0, 1, 0); add(0, 1, 2) = true");
        Cases.holds(5, "100 LOTS may not be, of one pair", Cases.book(0, 0, 10), Cases.book(1, 3, 10), target,
                "add(0, 1, 2) = false; add(0, 1, 0) = false; lots(1, 3, 9); add(0, 1, 2) = true; lot(2, 3) = 90");
        Cases.holds(5, "100 LOTS may not be, of several pairs", Cases.book(0, 0, 5, 1, 5), Cases.book(1, 0, 10, 1, 10),
                target, "add(0, 1, 2) = false; add(0, 1, 1) = false");
        Cases.holds(5, "the most LOTS there are", Cases.each("lots(0, #, 99)", ALL_SCORES), target,
                "add(0, 0, 2) = false; add(0, 0, 0) = false; lots(1, 0, 1); add(0, 1, 2) = true; whole(2) = 4059");
        Cases.holds(5, "no such BOOK", Cases.book(0, 1, 2), Cases.book(1, 2, 3), target,
                Cases.each("add(#, 1, 2) = false; add(0, #, 2) = false; add(0, 1, #) = false", NO_BOOK));
    }
}
