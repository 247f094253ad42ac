import java.util.Arrays;

/**
 * A desk for charts that call. The words in capitals are those of the document's terms.
 *
 * <p>Every row and number that a call works with is made once, with the desk, and used again: a call makes no objects.
 */
public final class ChartDesk {
    public static final int NONE = -1;

    private static final int TOP = 20;
    private static final int SCORES = 2 * TOP + 1;
    private static final int BOOKS = 4;
    private static final int CHARTS = 6;
    private static final int SHEETS = 4;
    private static final int PLACES = 2;
    private static final int MOST_LOTS = 99;
    private static final int MOST_LOGGED = 40;
    private static final int MOST_ON_SHEET = 40;
    private static final int MOST_TURNS = 40;
    private static final int MOST_DRAWN = 200;
    private static final int MOST_LINE_TRIED = 12;
    private static final int MILLION = 1000000;
    private static final long MOST_TIMES = 1000000000000000000L;

    /** No CHART has more STATES: RUNS with of 4, COUNTS with gap 8 and many 3. */
    private static final int STATES = 27;
    private static final int MOST_TOGETHER = 30;

    private static final int NO_SCORE = -100;
    private static final int REFUSED = -2;
    private static final int MISSING = -3;
    private static final int SPENT = -2;
    private static final int CALL = -10;

    private static final int LINES = 0;
    private static final int RUNS = 1;
    private static final int SUMS = 2;
    private static final int TWO = 3;
    private static final int FADING = 4;
    private static final int COUNTS = 5;

    private final Holdings now = new Holdings();
    private final Holdings[] kept = new Holdings[PLACES];
    private final boolean[] isKept = new boolean[PLACES];
    private final int[] sums = new int[2 * SCORES - 1];

    private final Ways ways = new Ways();
    private final Turns turns = new Turns();
    private final Solver solver = new Solver();
    private final Reducer reducer = new Reducer();
    private final Likeness likeness = new Likeness();
    private final Chart trial = new Chart();
    private final Big high = new Big();
    private final Big low = new Big();
    private final Big spare = new Big();

    private Fraction answer = new Fraction();
    private Fraction before = new Fraction();
    private Fraction fresh = new Fraction();

    public ChartDesk() {
        for (int i = 0; i < PLACES; i++) {
            kept[i] = new Holdings();
        }
    }

    // ---- books

    public boolean lots(int book, int score, int n) {
        Book named = bookAt(book);
        if (named == null || !isScore(score) || !within(n, 0, MOST_LOTS)) {
            return false;
        }
        named.change(score, n);
        return true;
    }

    public int lot(int book, int score) {
        Book named = bookAt(book);
        if (named == null || !isScore(score)) {
            return NONE;
        }
        return named.lotsOf(score);
    }

    public int whole(int book) {
        Book named = bookAt(book);
        return named == null ? NONE : named.sum;
    }

    public boolean add(int a, int b, int to) {
        Book first = bookAt(a);
        Book second = bookAt(b);
        Book target = bookAt(to);
        if (first == null || second == null || target == null) {
            return false;
        }
        // The sums stand apart until all are known to be allowed: the target may be one of the two.
        multiply(first, second);
        if (!sumsAllowed()) {
            return false;
        }
        for (int score = -TOP; score <= TOP; score++) {
            target.change(score, sums[score + 2 * TOP]);
        }
        return true;
    }

    private void multiply(Book first, Book second) {
        Arrays.fill(sums, 0);
        for (int i = 0; i < SCORES; i++) {
            for (int j = 0; j < SCORES; j++) {
                sums[i + j] += first.lots[i] * second.lots[j];
            }
        }
    }

    private boolean sumsAllowed() {
        for (int i = 0; i < sums.length; i++) {
            int most = isScore(i - 2 * TOP) ? MOST_LOTS : 0;
            if (sums[i] > most) {
                return false;
            }
        }
        return true;
    }

    // ---- charts

    public int chart(int c, int kind, int p, int q, int r, int s, int t) {
        if (!within(c, 0, CHARTS - 1) || !Chart.canBe(kind, p, q, r, s, t)) {
            return NONE;
        }
        Chart named = now.charts[c];
        named.begin(kind, p, q, r, s, t);
        return named.states;
    }

    public int of(int c, int what) {
        Chart named = chartAt(c);
        if (named == null) {
            return NONE;
        }
        switch (what) {
            case 0:
                return named.kind;
            case 1:
                return named.state;
            case 2:
                return named.logged;
            case 3:
                return named.callCount;
            case 4:
                return named.turnCount;
            case 5:
                return named.why;
            default:
                return NONE;
        }
    }

    public int step(int c, int state, int score) {
        Chart named = chartAt(c);
        if (named == null || !named.hasState(state) || !isScore(score)) {
            return NONE;
        }
        return named.goesTo(state, score);
    }

    public int turn(int c, int score) {
        Chart named = chartAt(c);
        if (named == null || !isScore(score)) {
            return NONE;
        }
        return named.get(score);
    }

    public int anew(int c) {
        Chart named = chartAt(c);
        if (named == null) {
            return NONE;
        }
        int was = named.state;
        named.restart();
        return was;
    }

    public int log(int c, int i) {
        Chart named = chartAt(c);
        if (named == null || !within(i, 0, named.logged - 1)) {
            return NO_SCORE;
        }
        return named.scoreOfLog(i);
    }

    // ---- sheets

    public boolean sheet(int s, int n) {
        if (!within(s, 0, SHEETS - 1) || !within(n, NONE, MOST_ON_SHEET)) {
            return false;
        }
        now.sheets[s].begin(n);
        return true;
    }

    public boolean put(int s, int i, int score) {
        if (!within(s, 0, SHEETS - 1) || !isScore(score)) {
            return false;
        }
        Sheet named = now.sheets[s];
        if (!within(i, 0, named.size - 1)) {
            return false;
        }
        named.scores[i] = score;
        return true;
    }

    public int run(int c, int s, int from, int n) {
        Chart named = chartAt(c);
        if (n < 0 || from < 0 || named == null || !within(s, 0, SHEETS - 1)) {
            return REFUSED;
        }
        Sheet row = now.sheets[s];
        if (row.size == NONE) {
            return MISSING;
        }
        int there = Math.min(n, Math.max(0, row.size - from));
        int calls = 0;
        for (int i = 0; i < there; i++) {
            calls += named.get(row.scores[from + i]);
        }
        return there < n ? NO_SCORE - there : calls;
    }

    public int draw(int c, int book, int seed, int n) {
        Chart named = chartAt(c);
        Book chances = readyBook(book);
        if (named == null || chances == null || !within(n, 1, MOST_DRAWN)) {
            return NONE;
        }
        int g = seed;
        int calls = 0;
        for (int i = 0; i < n; i++) {
            g = 1103515245 * g + 12345;
            calls += named.get(chances.scoreAt((g >>> 8) % Math.max(1, chances.sum)));
        }
        return calls;
    }

    // ---- waits

    public int reached(int c, int book, int state) {
        Chart named = chartAt(c);
        Book chances = readyBook(book);
        if (named == null || chances == null || !named.hasState(state)) {
            return NONE;
        }
        ways.begin();
        ways.meet(state, 0);
        ways.explore(named, null, chances);
        return ways.count;
    }

    public int mean(int c, int book, int state) {
        Chart named = chartAt(c);
        Book chances = readyBook(book);
        if (named == null || chances == null || !named.hasState(state)) {
            return NONE;
        }
        beginAt(state, 0);
        return tell(waited(named, null, chances, Solver.MEAN));
    }

    public int by(int c, int book, int state, int n) {
        Chart named = chartAt(c);
        Book chances = readyBook(book);
        if (named == null || chances == null || !named.hasState(state) || !within(n, 0, MOST_TURNS)) {
            return NONE;
        }
        takeTurns(named, chances, state, n);
        turns.sumInto(spare);
        fresh.above.copyFrom(turns.all);
        fresh.above.lessen(spare);
        fresh.below.copyFrom(turns.all);
        return tell(1);
    }

    public int left(int c, int book, int n, int state) {
        Chart named = chartAt(c);
        Book chances = readyBook(book);
        if (named == null || chances == null || !named.hasState(state) || !within(n, 0, MOST_TURNS)) {
            return NONE;
        }
        takeTurns(named, chances, named.first(), n);
        int node = ways.nodeOf(state);
        if (node == NONE) {
            fresh.above.become(0);
        } else {
            fresh.above.copyFrom(turns.row[node]);
        }
        fresh.below.copyFrom(turns.all);
        return tell(1);
    }

    public int found(int c, int book, int n, int other) {
        Chart named = chartAt(c);
        Book chances = readyBook(book);
        Book later = readyBook(other);
        if (named == null || chances == null || later == null || !within(n, 0, MOST_TURNS)) {
            return NONE;
        }
        takeTurns(named, chances, named.first(), n);
        int starts = turns.gather(ways);
        if (starts == 0) {
            return 0;
        }
        ways.begin();
        for (int i = 0; i < starts; i++) {
            ways.meet(turns.states[i], 0);
        }
        return tell(waited(named, null, later, Solver.MEAN));
    }

    public int join(int c, int d, int book) {
        return tell(waitedTogether(c, d, book, Solver.MEAN));
    }

    public int ahead(int c, int d, int book, int which) {
        return within(which, 0, 1) ? tell(waitedTogether(c, d, book, which)) : NONE;
    }

    private int waitedTogether(int c, int d, int book, int which) {
        Chart first = chartAt(c);
        Chart second = chartAt(d);
        Book chances = readyBook(book);
        if (first == null || second == null || c == d || chances == null) {
            return NONE;
        }
        beginAt(first.first(), second.first());
        return waited(first, second, chances, which);
    }

    public int alike(int c, int book, int a, int b) {
        Chart named = chartAt(c);
        Book chances = readyBook(book);
        if (named == null || chances == null || !named.hasState(a) || !named.hasState(b)) {
            return NONE;
        }
        likeness.sort(named, chances);
        return likeness.group[a] == likeness.group[b] ? 1 : 0;
    }

    public int kinds(int c, int book) {
        Chart named = chartAt(c);
        Book chances = readyBook(book);
        if (named == null || chances == null) {
            return NONE;
        }
        likeness.sort(named, chances);
        ways.begin();
        ways.meet(named.first(), 0);
        ways.explore(named, null, chances);
        return likeness.groupsAmong(ways);
    }

    public int best(int mean, int a, int b, int least) {
        Book calm = readyBook(a);
        Book changed = readyBook(b);
        if (calm == null || changed == null || !isScore(mean) || !within(least, 0, MILLION)) {
            return REFUSED;
        }
        // With the same SCORES a lower line calls no later: the first line that will do has the least MEAN.
        for (int line = 0; line <= MOST_LINE_TRIED; line++) {
            trial.begin(SUMS, mean, line, 0, 0, 0);
            int calmly = waitedByTrial(calm);
            if ((calmly == 0 || freshIsAtLeast(least)) && waitedByTrial(changed) == 1) {
                tell(1);
                return line;
            }
        }
        return NONE;
    }

    private boolean freshIsAtLeast(int least) {
        spare.copyFrom(fresh.below);
        spare.scale(least);
        return fresh.above.against(spare) >= 0;
    }

    private int waitedByTrial(Book chances) {
        beginAt(trial.first(), 0);
        return waited(trial, null, chances, Solver.MEAN);
    }

    public int back(int c, int a, int b) {
        Chart named = chartAt(c);
        Book early = readyBook(a);
        Book late = readyBook(b);
        if (named == null || early == null || late == null) {
            return NONE;
        }
        // A product is 0 if from its turn on a SCORE comes that the late BOOK lacks, or before it one that the early lacks.
        int least = 0;
        int most = named.logged;
        for (int i = named.logged - 1; i >= 0; i--) {
            int score = named.scoreOfLog(i);
            if (late.lotsOf(score) == 0) {
                least = Math.max(least, i + 1);
            }
            if (early.lotsOf(score) == 0) {
                most = i;
            }
        }
        return least > most ? NONE : likeliest(named, early, late, least, most);
    }

    /** All products from turn least to turn most are above 0, so each is told by its ratio to the best one before. */
    private int likeliest(Chart named, Book early, Book late, int least, int most) {
        int best = least;
        high.become(1);
        low.become(1);
        for (int i = least; i < most; i++) {
            int score = named.scoreOfLog(i);
            high.scale(early.lotsOf(score) * late.sum);
            low.scale(late.lotsOf(score) * early.sum);
            if (high.against(low) > 0) {
                best = i + 1;
                high.become(1);
                low.become(1);
            }
        }
        return best;
    }

    // ---- the answer

    public int length(int which) {
        if (which == 0) {
            return answer.above.width();
        }
        return which == 1 ? answer.below.width() : NONE;
    }

    public int bits(int which, int k) {
        if (k < 0 || !within(which, 0, 1)) {
            return 0;
        }
        return which == 0 ? answer.above.window(k) : answer.below.window(k);
    }

    public long times(int n) {
        if (!within(n, 0, MILLION)) {
            return NONE;
        }
        high.copyFrom(answer.above);
        high.scale(n);
        high.splitBy(answer.below, low, spare);
        return Math.min(MOST_TIMES, low.value());
    }

    public int order() {
        high.product(answer.above, before.below);
        low.product(before.above, answer.below);
        return high.against(low);
    }

    public boolean image(int place) {
        if (!within(place, 0, PLACES - 1)) {
            return false;
        }
        kept[place].copyFrom(now);
        isKept[place] = true;
        return true;
    }

    public boolean again(int place) {
        if (!within(place, 0, PLACES - 1) || !isKept[place]) {
            return false;
        }
        now.copyFrom(kept[place]);
        return true;
    }

    // ---- what the calls share

    private static boolean within(int n, int low, int high) {
        return n >= low && n <= high;
    }

    private static boolean isScore(int n) {
        return within(n, -TOP, TOP);
    }

    private Book bookAt(int book) {
        return within(book, 0, BOOKS - 1) ? now.books[book] : null;
    }

    private Book readyBook(int book) {
        Book named = bookAt(book);
        return named == null || named.sum == 0 ? null : named;
    }

    private Chart chartAt(int c) {
        return within(c, 0, CHARTS - 1) && now.charts[c].isThere() ? now.charts[c] : null;
    }

    private void beginAt(int state, int otherState) {
        turns.begin();
        ways.begin();
        ways.meet(state, otherState);
    }

    private void takeTurns(Chart named, Book chances, int state, int n) {
        beginAt(state, 0);
        ways.explore(named, null, chances);
        turns.go(ways, n);
    }

    /** From the STATES that the ways began with, weighted by the row of the turns: 1 with a fresh fraction, 0, or SPENT. */
    private int waited(Chart first, Chart second, Book chances, int which) {
        int starts = ways.count;
        ways.explore(first, second, chances);
        if (ways.isSpent) {
            return SPENT;
        }
        if (ways.mayNeverCall()) {
            return 0;
        }
        solver.solve(ways, turns.row, starts, which);
        fresh.above.copyFrom(solver.above);
        fresh.below.copyFrom(solver.below);
        return 1;
    }

    /** The fresh fraction becomes the ANSWER, if there is one; the three change places, so that nothing is copied. */
    private int tell(int outcome) {
        if (outcome == 1) {
            reducer.reduce(fresh);
            Fraction oldest = before;
            before = answer;
            answer = fresh;
            fresh = oldest;
        }
        return outcome;
    }

    // ---- what is held

    /** LOTS of each SCORE, from the least SCORE on. */
    private static final class Book {
        final int[] lots = new int[SCORES];
        int sum;

        void change(int score, int n) {
            if (isScore(score)) {
                sum += n - lots[score + TOP];
                lots[score + TOP] = n;
            }
        }

        int lotsOf(int score) {
            return isScore(score) ? lots[score + TOP] : 0;
        }

        /** The SCORE of a lot, when all lots are laid out from the least SCORE on. */
        int scoreAt(int lot) {
            int rest = lot;
            for (int i = 0; i < SCORES; i++) {
                if (rest < lots[i]) {
                    return i - TOP;
                }
                rest -= lots[i];
            }
            return TOP;
        }

        void copyFrom(Book source) {
            System.arraycopy(source.lots, 0, lots, 0, SCORES);
            sum = source.sum;
        }
    }

    /** A CHART; its numbers p to t are those of its KIND, in the document's order. */
    private static final class Chart {
        int kind = NONE;
        int p;
        int q;
        int r;
        int s;
        int t;
        int states;
        int state;
        int callCount;
        int turnCount;
        int why;
        final int[] log = new int[MOST_LOGGED];
        int oldest;
        int logged;

        static boolean canBe(int kind, int p, int q, int r, int s, int t) {
            switch (kind) {
                case LINES:
                    return isScore(p) && isScore(q) && p <= q;
                case RUNS:
                    return isScore(p) && isScore(q) && p <= q
                            && within(r, 0, TOP - 1) && within(t, 1, 4) && within(s, 1, t);
                case SUMS:
                    return isScore(p) && within(q, 0, TOP);
                case TWO:
                    return within(p, 0, TOP) && within(q, 0, 4);
                case FADING:
                    return within(p, 1, 8) && within(q, 0, 3);
                case COUNTS:
                    return isScore(p) && within(q, 1, 8) && within(r, 1, 3);
                default:
                    return false;
            }
        }

        void begin(int newKind, int newP, int newQ, int newR, int newS, int newT) {
            kind = newKind;
            p = newP;
            q = newQ;
            r = newR;
            s = newS;
            t = newT;
            states = statesInAll();
            callCount = 0;
            turnCount = 0;
            why = 0;
            restart();
        }

        boolean isThere() {
            return kind != NONE;
        }

        private int statesInAll() {
            switch (kind) {
                case RUNS:
                    int signs = 1;
                    for (int i = 1; i < t; i++) {
                        signs *= 3;
                    }
                    return signs;
                case SUMS:
                    return q + 1;
                case TWO:
                    return (q + 1) * (q + 1);
                case FADING:
                    return 8 * q + 1;
                case COUNTS:
                    return r * (q + 1);
                default:
                    return 1;
            }
        }

        boolean hasState(int n) {
            return within(n, 0, states - 1);
        }

        int first() {
            if (kind == FADING) {
                return 4 * q;
            }
            return kind == COUNTS ? q : 0;
        }

        void restart() {
            state = first();
            oldest = 0;
            logged = 0;
        }

        /** 1 if it CALLS, else 0. */
        int get(int score) {
            turnCount++;
            int next = goesTo(state, score);
            if (next < 0) {
                callCount++;
                why = CALL - next;
                restart();
                return 1;
            }
            state = next;
            note(score);
            return 0;
        }

        private void note(int score) {
            log[(oldest + logged) % MOST_LOGGED] = score;
            if (logged < MOST_LOGGED) {
                logged++;
            } else {
                oldest = (oldest + 1) % MOST_LOGGED;
            }
        }

        int scoreOfLog(int i) {
            return within(i, 0, logged - 1) ? log[(oldest + i) % MOST_LOGGED] : NO_SCORE;
        }

        /** The next STATE, or CALL less why. */
        int goesTo(int from, int score) {
            switch (kind) {
                case RUNS:
                    return goByRuns(from, score);
                case SUMS:
                    return goBySums(from, score);
                case TWO:
                    return goByTwo(from, score);
                case FADING:
                    return goByFading(from, score);
                case COUNTS:
                    return goByCounts(from, score);
                default:
                    return goByLines(score);
            }
        }

        private int goByLines(int score) {
            if (score < p) {
                return CALL - 1;
            }
            return score > q ? CALL - 2 : 0;
        }

        private int goByRuns(int from, int score) {
            int outside = goByLines(score);
            if (outside < 0) {
                return outside;
            }
            int sign = score > r ? 1 : score < -r ? 2 : 0;
            int signs = 3 * from + sign;
            int above = 0;
            int below = 0;
            int rest = signs;
            for (int i = 0; i < t; i++) {
                above += rest % 3 == 1 ? 1 : 0;
                below += rest % 3 == 2 ? 1 : 0;
                rest /= 3;
            }
            if (above >= s) {
                return CALL - 3;
            }
            return below >= s ? CALL - 4 : signs % Math.max(1, states);
        }

        private int goBySums(int from, int score) {
            int up = Math.max(0, from + score - p);
            return up > q ? CALL - 5 : up;
        }

        private int goByTwo(int from, int score) {
            int wide = Math.max(1, q + 1);
            int up = Math.max(0, from / wide + score - p);
            int down = Math.max(0, from % wide - score - p);
            if (up > q) {
                return CALL - 5;
            }
            return down > q ? CALL - 6 : up * wide + down;
        }

        private int goByFading(int from, int score) {
            int line = 4 * q;
            int next = nearest(p * 4 * score + (8 - p) * (from - line));
            if (next > line) {
                return CALL - 2;
            }
            return next < -line ? CALL - 1 : next + line;
        }

        /** Eighths, rounded to the nearest whole, of two as near to the even one. */
        private static int nearest(int eighths) {
            int low = eighths >> 3;
            int over = eighths - 8 * low;
            if (over == 4) {
                return low + (low & 1);
            }
            return over < 4 ? low : low + 1;
        }

        private int goByCounts(int from, int score) {
            int wide = Math.max(1, q + 1);
            int since = Math.min(q, from % wide + 1);
            int near = from / wide;
            if (score <= p) {
                return near * wide + since;
            }
            near = since < q ? near + 1 : 0;
            return near >= r ? CALL - 7 : near * wide;
        }

        void copyFrom(Chart source) {
            begin(source.kind, source.p, source.q, source.r, source.s, source.t);
            state = source.state;
            callCount = source.callCount;
            turnCount = source.turnCount;
            why = source.why;
            System.arraycopy(source.log, 0, log, 0, MOST_LOGGED);
            oldest = source.oldest;
            logged = source.logged;
        }
    }

    /** A row of SCORES; its size is NONE while it is missing. */
    private static final class Sheet {
        final int[] scores = new int[MOST_ON_SHEET];
        int size = NONE;

        void begin(int n) {
            Arrays.fill(scores, 0);
            size = n;
        }

        void copyFrom(Sheet source) {
            System.arraycopy(source.scores, 0, scores, 0, MOST_ON_SHEET);
            size = source.size;
        }
    }

    /** All that an image keeps. */
    private static final class Holdings {
        final Book[] books = new Book[BOOKS];
        final Chart[] charts = new Chart[CHARTS];
        final Sheet[] sheets = new Sheet[SHEETS];

        Holdings() {
            for (int i = 0; i < BOOKS; i++) {
                books[i] = new Book();
            }
            for (int i = 0; i < CHARTS; i++) {
                charts[i] = new Chart();
            }
            for (int i = 0; i < SHEETS; i++) {
                sheets[i] = new Sheet();
            }
        }

        void copyFrom(Holdings source) {
            for (int i = 0; i < BOOKS; i++) {
                books[i].copyFrom(source.books[i]);
            }
            for (int i = 0; i < CHARTS; i++) {
                charts[i].copyFrom(source.charts[i]);
            }
            for (int i = 0; i < SHEETS; i++) {
                sheets[i].copyFrom(source.sheets[i]);
            }
        }
    }

    // ---- numbers of any length

    /**
     * A whole number, not below 0, in words of 30 bits, the lowest first: so a product of two words and what is carried
     * stay within a long. The words from size on are 0.
     *
     * <p>The longest one that a call needs is order's product of two numbers of some 810 bits each: 54 words.
     */
    private static final class Big {
        static final int WORDS = 64;
        static final int WORD_BITS = 30;
        static final int MASK = (1 << WORD_BITS) - 1;

        final int[] words = new int[WORDS];
        int size;

        /** A whole number of one word. */
        void become(int n) {
            for (int i = 0; i < size; i++) {
                words[i] = 0;
            }
            words[0] = n & MASK;
            size = words[0] == 0 ? 0 : 1;
        }

        void copyFrom(Big source) {
            int end = Math.max(size, source.size);
            for (int i = 0; i < end; i++) {
                words[i] = source.words[i];
            }
            size = source.size;
        }

        /** All words from end on are 0, but for one that is carried there; then size is brought down to the highest. */
        private void settle(int end, long carry) {
            size = end;
            if (end < WORDS) {
                words[end] = (int) (carry & MASK);
                size = end + 1;
            }
            while (size > 0 && words[size - 1] == 0) {
                size--;
            }
        }

        private int wordAt(int i) {
            return i >= 0 && i < WORDS ? words[i] : 0;
        }

        void scale(int factor) {
            long carry = 0;
            int end = size;
            for (int i = 0; i < end; i++) {
                carry += (long) words[i] * factor;
                words[i] = (int) (carry & MASK);
                carry >>= WORD_BITS;
            }
            settle(end, carry);
        }

        /** Grows by a number times a factor of one word. */
        void gain(Big source, int factor) {
            long carry = 0;
            int end = Math.max(size, source.size);
            for (int i = 0; i < end; i++) {
                carry += words[i] + (long) source.words[i] * factor;
                words[i] = (int) (carry & MASK);
                carry >>= WORD_BITS;
            }
            settle(end, carry);
        }

        /** Less a number that is not above this one. */
        void lessen(Big source) {
            int borrow = 0;
            for (int i = 0; i < size; i++) {
                int word = words[i] - source.words[i] + borrow;
                words[i] = word & MASK;
                borrow = word >> WORD_BITS;
            }
            settle(size, 0);
        }

        /** Becomes the product of two others. */
        void product(Big a, Big b) {
            become(0);
            for (int i = 0; i < a.size; i++) {
                int end = Math.min(b.size, WORDS - i);
                long carry = 0;
                for (int j = 0; j < end; j++) {
                    carry += words[i + j] + (long) a.words[i] * b.words[j];
                    words[i + j] = (int) (carry & MASK);
                    carry >>= WORD_BITS;
                }
                if (i + end < WORDS) {
                    words[i + end] = (int) carry;
                }
            }
            settle(Math.min(WORDS, a.size + b.size), 0);
        }

        /** 1 above the other one, 0 the same, -1 below it. */
        int against(Big compared) {
            if (size != compared.size) {
                return size > compared.size ? 1 : -1;
            }
            for (int i = size - 1; i >= 0; i--) {
                if (words[i] != compared.words[i]) {
                    return words[i] > compared.words[i] ? 1 : -1;
                }
            }
            return 0;
        }

        /** What is left by a divisor of one word. */
        int restBy(int divisor) {
            if (divisor < 1) {
                return 0;
            }
            long rest = 0;
            for (int i = size - 1; i >= 0; i--) {
                rest = ((rest << WORD_BITS) + words[i]) % divisor;
            }
            return (int) rest;
        }

        int width() {
            return size == 0 ? 0 : WORD_BITS * (size - 1) + widthOf(words[size - 1]);
        }

        static int widthOf(int n) {
            return 32 - Integer.numberOfLeadingZeros(n);
        }

        /** Bits 32 k to 32 k + 31. */
        int window(int k) {
            if (!within(k, 0, WORDS)) {
                return 0;
            }
            int i = 32 * k / WORD_BITS;
            int skipped = 32 * k % WORD_BITS;
            // An even number of bits is skipped, 28 at most: two words are enough.
            long both = wordAt(i) | (long) wordAt(i + 1) << WORD_BITS;
            return (int) (both >>> skipped);
        }

        /** As a long; of more than two words it is above all that is told as one. */
        long value() {
            return size > 2 ? MOST_TIMES : words[0] | (long) words[1] << WORD_BITS;
        }

        /** Becomes the rest by a divisor; the quotient gets the whole part; the scaled one is overwritten. */
        void splitBy(Big divisor, Big quotient, Big scaled) {
            quotient.become(0);
            if (divisor.size == 0 || against(divisor) < 0) {
                return;
            }
            // With the divisor's highest bit at its word's top, the first guess of a word is at most two too great.
            int shift = WORD_BITS - widthOf(divisor.words[divisor.size - 1]);
            scaled.copyFrom(divisor);
            scaled.scale(1 << shift);
            scale(1 << shift);
            int places = size - scaled.size;
            for (int k = places; k >= 0; k--) {
                quotient.words[k] = splitWord(scaled, k);
            }
            quotient.settle(places + 1, 0);
            settle(size, 0);
            shiftDown(shift);
        }

        /** One word of a quotient: what is subtracted of the divisor, k words up, so that it is above the rest. */
        private int splitWord(Big divisor, int k) {
            int n = divisor.size;
            long guess = guessWord(divisor, k);
            long borrow = 0;
            for (int i = 0; i < n; i++) {
                borrow += words[k + i] - guess * divisor.words[i];
                words[k + i] = (int) (borrow & MASK);
                borrow >>= WORD_BITS;
            }
            borrow += wordAt(k + n);
            if (k + n < WORDS) {
                words[k + n] = 0;
            }
            if (borrow < 0) {
                guess--;
                giveBack(divisor, k);
            }
            return (int) guess;
        }

        private long guessWord(Big divisor, int k) {
            int n = divisor.size;
            long high = Math.max(1, divisor.words[n - 1]);
            long next = divisor.wordAt(n - 2);
            long head = ((long) wordAt(k + n) << WORD_BITS) + wordAt(k + n - 1);
            long guess = Math.min(MASK, head / high);
            long rest = head - guess * high;
            for (int i = 0; i < 2; i++) {
                if (rest <= MASK && guess * next > (rest << WORD_BITS) + wordAt(k + n - 2)) {
                    guess--;
                    rest += high;
                }
            }
            return guess;
        }

        private void giveBack(Big divisor, int k) {
            int carry = 0;
            for (int i = 0; i < divisor.size; i++) {
                carry += words[k + i] + divisor.words[i];
                words[k + i] = carry & MASK;
                carry >>= WORD_BITS;
            }
        }

        private void shiftDown(int shift) {
            for (int i = 0; i < size; i++) {
                long both = words[i] | (long) wordAt(i + 1) << WORD_BITS;
                words[i] = (int) (both >>> shift & MASK);
            }
            settle(size, 0);
        }
    }

    private static final class Fraction {
        final Big above = new Big();
        final Big below = new Big();

        Fraction() {
            below.become(1);
        }
    }

    /** Brings fractions to lowest terms. */
    private static final class Reducer {
        /** Above Euclid's steps for numbers of a Big's length: 1.5 a bit. */
        static final int MOST_STEPS = 2 * Big.WORDS * Big.WORD_BITS;

        final Big first = new Big();
        final Big second = new Big();
        final Big quotient = new Big();
        final Big scaled = new Big();

        void reduce(Fraction fraction) {
            Big common = commonOf(fraction.above, fraction.below);
            if (common.width() > 1) {
                divide(fraction.above, common);
                divide(fraction.below, common);
            }
        }

        private Big commonOf(Big a, Big b) {
            first.copyFrom(a);
            second.copyFrom(b);
            Big greater = first;
            Big less = second;
            for (int i = 0; i < MOST_STEPS && less.size > 0; i++) {
                greater.splitBy(less, quotient, scaled);
                Big rest = greater;
                greater = less;
                less = rest;
            }
            return greater;
        }

        private void divide(Big number, Big divisor) {
            number.splitBy(divisor, quotient, scaled);
            number.copyFrom(quotient);
        }
    }

    // ---- the ways of charts

    /** The STATES that are REACHED, of one CHART or pairs of two, as nodes in the order in which they were met. */
    private static final class Ways {
        final int[] state = new int[MOST_TOGETHER];
        final int[] otherState = new int[MOST_TOGETHER];
        /** The node of a pair of STATES, and 1; 0 for one that has not been met. */
        final int[] place = new int[STATES * STATES];
        final int[][] toward = new int[MOST_TOGETHER][MOST_TOGETHER];
        /** LOTS by which from a node the first CHART alone CALLS (0), both at once (1), the other alone (2). */
        final int[][] calls = new int[MOST_TOGETHER][3];
        final boolean[] canCall = new boolean[MOST_TOGETHER];
        int count;
        int sum;
        boolean isSpent;

        void begin() {
            Arrays.fill(place, 0);
            count = 0;
            isSpent = false;
        }

        private static boolean isPair(int a, int b) {
            return a >= 0 && a < STATES && b >= 0 && b < STATES;
        }

        /** The node of one CHART's STATE; NONE if it has not been met. */
        int nodeOf(int a) {
            return isPair(a, 0) ? place[a * STATES] - 1 : NONE;
        }

        /** The node of a pair, a new one if need be; NONE, and it is SPENT, if there are too many. */
        int meet(int a, int b) {
            if (!isPair(a, b)) {
                return NONE;
            }
            int known = place[a * STATES + b];
            if (known != 0) {
                return known - 1;
            }
            if (count >= MOST_TOGETHER) {
                isSpent = true;
                return NONE;
            }
            state[count] = a;
            otherState[count] = b;
            Arrays.fill(toward[count], 0);
            Arrays.fill(calls[count], 0);
            count++;
            place[a * STATES + b] = count;
            return count - 1;
        }

        /** From the nodes met so far; the second CHART is null where there is one alone. */
        void explore(Chart first, Chart second, Book chances) {
            sum = chances.sum;
            for (int node = 0; node < MOST_TOGETHER && node < count && !isSpent; node++) {
                for (int i = 0; i < SCORES && !isSpent; i++) {
                    if (chances.lots[i] != 0) {
                        follow(node, first, second, i - TOP, chances.lots[i]);
                    }
                }
            }
        }

        private void follow(int node, Chart first, Chart second, int score, int lots) {
            int a = first.goesTo(state[node], score);
            int b = second == null ? 0 : second.goesTo(otherState[node], score);
            if (a < 0) {
                calls[node][b < 0 ? 1 : 0] += lots;
            } else if (b < 0) {
                calls[node][2] += lots;
            } else {
                int next = meet(a, b);
                if (next != NONE) {
                    toward[node][next] += lots;
                }
            }
        }

        /** Whether some node is there from which none is reached that can call: NEVER. */
        boolean mayNeverCall() {
            int able = 0;
            for (int i = 0; i < count; i++) {
                canCall[i] = calls[i][0] + calls[i][1] + calls[i][2] > 0;
                able += canCall[i] ? 1 : 0;
            }
            int ableBefore = 0;
            for (int round = 0; round < count && able > ableBefore; round++) {
                ableBefore = able;
                for (int i = 0; i < count; i++) {
                    if (!canCall[i] && leadsToCall(i)) {
                        canCall[i] = true;
                        able++;
                    }
                }
            }
            return able < count;
        }

        private boolean leadsToCall(int node) {
            for (int j = 0; j < count; j++) {
                if (toward[node][j] != 0 && canCall[j]) {
                    return true;
                }
            }
            return false;
        }
    }

    /** How many rows of lots lead to each node without a CALL, turn by turn. */
    private static final class Turns {
        Big[] row = new Big[MOST_TOGETHER];
        Big[] next = new Big[MOST_TOGETHER];
        final int[] states = new int[MOST_TOGETHER];
        /** How many rows of lots there are in all. */
        final Big all = new Big();

        Turns() {
            for (int i = 0; i < MOST_TOGETHER; i++) {
                row[i] = new Big();
                next[i] = new Big();
            }
        }

        /** At node 0. */
        void begin() {
            for (int i = 0; i < MOST_TOGETHER; i++) {
                row[i].become(i == 0 ? 1 : 0);
                next[i].become(0);
            }
            all.become(1);
        }

        void go(Ways ways, int n) {
            for (int i = 0; i < n; i++) {
                advance(ways);
                all.scale(ways.sum);
            }
        }

        private void advance(Ways ways) {
            for (int j = 0; j < ways.count; j++) {
                next[j].become(0);
            }
            for (int i = 0; i < ways.count; i++) {
                for (int j = 0; j < ways.count && row[i].size > 0; j++) {
                    if (ways.toward[i][j] != 0) {
                        next[j].gain(row[i], ways.toward[i][j]);
                    }
                }
            }
            Big[] done = row;
            row = next;
            next = done;
        }

        void sumInto(Big total) {
            total.become(0);
            for (int i = 0; i < MOST_TOGETHER; i++) {
                total.gain(row[i], 1);
            }
        }

        /** Nodes with rows come first, their STATES beside them: how many there are. */
        int gather(Ways ways) {
            int gathered = 0;
            for (int i = 0; i < ways.count; i++) {
                if (row[i].size > 0) {
                    Big kept = row[i];
                    row[i] = row[gathered];
                    row[gathered] = kept;
                    states[gathered] = ways.state[i];
                    gathered++;
                }
            }
            return gathered;
        }
    }

    /**
     * Solves exactly what the nodes wait for: WHOLE times a node's value is what each turn there brings, and LOTS times
     * the values of the nodes ahead. One row more mixes the nodes that it begins with by their weights, so the last
     * unknown is the answer.
     *
     * <p>It is the ratio of two determinants (Cramer), both whole and not below 0. They are found by primes, each with a
     * plain elimination, and put together from what is left by each.
     */
    private static final class Solver {
        static final int MEAN = -1;

        /**
         * The determinants are of at most 810 bits: 28 primes of 30 bits are enough, and at most 26 of that size divide
         * the lower one, which makes them useless: so these are always enough.
         */
        private static final int[] PRIMES = {
            1073741789, 1073741783, 1073741741, 1073741723, 1073741719, 1073741717,
            1073741689, 1073741671, 1073741663, 1073741651, 1073741621, 1073741567,
            1073741561, 1073741527, 1073741503, 1073741477, 1073741467, 1073741441,
            1073741419, 1073741399, 1073741387, 1073741381, 1073741371, 1073741329,
            1073741311, 1073741309, 1073741287, 1073741237, 1073741213, 1073741197,
            1073741189, 1073741173, 1073741101, 1073741077, 1073741047, 1073740963,
            1073740951, 1073740933, 1073740909, 1073740879, 1073740853, 1073740847,
            1073740819, 1073740807, 1073740793, 1073740783, 1073740781, 1073740697,
            1073740693, 1073740691, 1073740649, 1073740609, 1073740571, 1073740567,
            1073740543, 1073740541, 1073740537, 1073740529, 1073740523, 1073740517
        };

        final Big above = new Big();
        final Big below = new Big();
        final Big modulus = new Big();
        final Big weightSum = new Big();
        final int[][] rows = new int[MOST_TOGETHER + 1][MOST_TOGETHER + 2];
        /** The mixing row's number, and its unknown's; the column behind it is what each row brings. */
        int last;
        int prime = PRIMES[0];
        long aboveRest;
        long belowRest;

        /** Which: MEAN, or the chance of a CALL of that sort in the ways' calls. */
        void solve(Ways ways, Big[] weights, int starts, int which) {
            above.become(0);
            below.become(0);
            modulus.become(1);
            last = ways.count;
            int enough = widthOfAll(ways, weights, starts);
            for (int i = 0; i < PRIMES.length && modulus.width() <= enough; i++) {
                prime = PRIMES[i];
                fillNodes(ways, which);
                fillMix(weights, starts);
                if (eliminate()) {
                    extend();
                }
            }
        }

        /** Neither determinant is above count times WHOLE to the count, times the weights' sum. */
        private int widthOfAll(Ways ways, Big[] weights, int starts) {
            weightSum.become(0);
            for (int i = 0; i < starts; i++) {
                weightSum.gain(weights[i], 1);
            }
            return Big.widthOf(ways.count) + ways.count * Big.widthOf(ways.sum) + weightSum.width();
        }

        private void fillNodes(Ways ways, int which) {
            for (int i = 0; i < last; i++) {
                int[] row = rows[i];
                for (int j = 0; j < last; j++) {
                    row[j] = less(ways.toward[i][j]);
                }
                row[i] = ways.sum - ways.toward[i][i];
                row[last] = 0;
                row[last + 1] = which == MEAN ? ways.sum : ways.calls[i][which];
            }
        }

        private void fillMix(Big[] weights, int starts) {
            int[] row = rows[last];
            for (int j = 0; j < last; j++) {
                row[j] = j < starts ? less(weights[j].restBy(prime)) : 0;
            }
            row[last] = weightSum.restBy(prime);
            row[last + 1] = 0;
        }

        /** What makes a rest 0. */
        private int less(int rest) {
            return rest == 0 ? 0 : prime - rest;
        }

        /** Finds the rests of both determinants; false if the lower one's is 0, as the upper one's is not found then. */
        private boolean eliminate() {
            long product = 1;
            for (int k = 0; k < last; k++) {
                int pivot = pivotRow(k);
                if (pivot == NONE) {
                    return false;
                }
                if (pivot != k) {
                    swapRows(pivot, k);
                    product = prime - product;
                }
                clearColumn(k);
                product = product * rows[k][k] % prime;
            }
            aboveRest = product * rows[last][last + 1] % prime;
            belowRest = product * rows[last][last] % prime;
            return belowRest != 0;
        }

        private int pivotRow(int k) {
            for (int i = k; i <= last; i++) {
                if (rows[i][k] != 0) {
                    return i;
                }
            }
            return NONE;
        }

        private void swapRows(int a, int b) {
            int[] row = rows[a];
            rows[a] = rows[b];
            rows[b] = row;
        }

        private void clearColumn(int k) {
            int[] from = rows[k];
            long inverse = inverse(from[k]);
            for (int i = k + 1; i <= last; i++) {
                int[] to = rows[i];
                if (to[k] != 0) {
                    long factor = prime - to[k] * inverse % prime;
                    for (int j = k + 1; j <= last + 1; j++) {
                        if (from[j] != 0) {
                            to[j] = (int) ((to[j] + factor * from[j]) % prime);
                        }
                    }
                }
            }
        }

        /** By Euclid's steps, which come down to 1, as the prime divides none of what it is asked for. */
        private long inverse(int n) {
            long high = prime;
            long low = n;
            long highFactor = 0;
            long lowFactor = 1;
            for (int i = 0; i < 64 && low > 1; i++) {
                long whole = high / low;
                long rest = high - whole * low;
                long restFactor = highFactor - whole * lowFactor;
                high = low;
                low = rest;
                highFactor = lowFactor;
                lowFactor = restFactor;
            }
            return lowFactor < 0 ? lowFactor + prime : lowFactor;
        }

        /** Both numbers grow by as many moduli as the new prime's rests ask for. */
        private void extend() {
            long inverse = inverse(modulus.restBy(prime));
            above.gain(modulus, lacking(above, aboveRest, inverse));
            below.gain(modulus, lacking(below, belowRest, inverse));
            modulus.scale(prime);
        }

        private int lacking(Big known, long rest, long inverse) {
            long lack = rest + prime - known.restBy(prime);
            return (int) (lack % prime * inverse % prime);
        }
    }

    /** Sorts a CHART's STATES into groups of those that are ALIKE. */
    private static final class Likeness {
        final int[][] next = new int[STATES][SCORES];
        int[] group = new int[STATES];
        int[] finer = new int[STATES];
        final int[] seen = new int[STATES];
        int states;
        int scores;

        /** One group at first; groups are parted until their STATES lead to the same groups by every SCORE. */
        void sort(Chart chart, Book chances) {
            read(chart, chances);
            Arrays.fill(group, 0);
            int before = 0;
            int groups = 1;
            for (int round = 0; round <= STATES && groups > before; round++) {
                before = groups;
                groups = part();
            }
        }

        private void read(Chart chart, Book chances) {
            states = Math.min(STATES, chart.states);
            scores = 0;
            for (int i = 0; i < SCORES; i++) {
                if (chances.lots[i] != 0) {
                    for (int a = 0; a < states; a++) {
                        next[a][scores] = chart.goesTo(a, i - TOP);
                    }
                    scores++;
                }
            }
        }

        /** Parts each group by where its STATES lead: how many groups there are then. */
        private int part() {
            int groups = 0;
            for (int a = 0; a < states; a++) {
                int like = likeBefore(a);
                if (like == NONE) {
                    finer[a] = groups;
                    groups++;
                } else {
                    finer[a] = finer[like];
                }
            }
            int[] coarser = group;
            group = finer;
            finer = coarser;
            return groups;
        }

        private int likeBefore(int a) {
            for (int b = 0; b < a; b++) {
                if (group[a] == group[b] && leadsLike(a, b)) {
                    return b;
                }
            }
            return NONE;
        }

        private boolean leadsLike(int a, int b) {
            for (int i = 0; i < scores; i++) {
                int toA = next[a][i];
                int toB = next[b][i];
                if (toA < 0 || toB < 0) {
                    if (toA >= 0 || toB >= 0) {
                        return false;
                    }
                } else if (group[toA] != group[toB]) {
                    return false;
                }
            }
            return true;
        }

        int groupsAmong(Ways ways) {
            Arrays.fill(seen, 0);
            int groups = 0;
            for (int i = 0; i < ways.count; i++) {
                int met = group[ways.state[i]];
                groups += seen[met] == 0 ? 1 : 0;
                seen[met]++;
            }
            return groups;
        }
    }
}
