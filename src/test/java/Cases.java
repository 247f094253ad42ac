import java.lang.reflect.InvocationTargetException;
import java.lang.reflect.Method;
import java.math.BigInteger;
import java.util.ArrayList;
import java.util.Arrays;
import java.util.HashMap;
import java.util.List;
import java.util.Map;
import java.util.Set;
import java.util.regex.Matcher;
import java.util.regex.Pattern;

/**
 * Cases written as text. Each one names its promise, and has rows of calls on one new object with the answers that are
 * due, as in "lots(0, 3, 99) = true; whole(0) = 99"; "answer = 6/1" asks for the ANSWER whole.
 *
 * <p>A row without an answer furnishes the object: it must not be refused. Of all other rows, each call that is refused
 * or that only asks must leave all as it was, and a call that tells an ANSWER must leave all but the ANSWERS. That is
 * looked up on objects of their own, one pair for each view: with and without the call, everything else the same.
 */
final class Cases {
    /** The document promises nothing about an object after so many calls. */
    private static final int MOST_CALLS = 512;
    private static final Set<String> CHANGERS = Set.of("lots", "add", "chart", "turn", "anew", "sheet", "put", "run",
            "draw", "image", "again");
    private static final Set<String> TELLERS = Set.of("mean", "by", "left", "found", "join", "ahead", "best");
    private static final Pattern CALL = Pattern.compile("(\\w+)\\(([^)]*)\\)");
    private static final Map<String, Method> METHODS = new HashMap<>();

    /**
     * An object with something of all: BOOK 0 of 1 and -1, 1 of 1 alone, 2 of 0 alone, 3 empty; CHARTS 0 (SUMS, in STATE
     * 1), 1 (LINES, has CALLED), 2 (RUNS, 1), 3 (TWO, 10), 4 (FADING, 10), and no CHART 5; SHEETS of 3, 40 and 0 SCORES,
     * and 3 missing; the ANSWER 4 after 6; an older image at place 0, none at 1.
     */
    static final String FURNISHED = "lots(0, 1, 1); lots(0, -1, 1); lots(1, 1, 5); lots(2, 0, 6); sheet(1, 2);"
            + "put(1, 1, 9); chart(0, 5, 1, 4, 2, 0, 0); turn(0, 2); image(0); chart(0, 2, 0, 1, 0, 0, 0);"
            + "chart(1, 0, -4, 4, 0, 0, 0); chart(2, 1, -4, 4, 1, 2, 3); chart(3, 3, 1, 4, 0, 0, 0);"
            + "chart(4, 4, 3, 2, 0, 0, 0); turn(0, 1); turn(1, 4); turn(1, 5); turn(1, -2); turn(2, 2); turn(3, 3);"
            + "turn(4, 1); lots(2, 0, 7); sheet(0, 3); put(0, 0, 20); put(0, 2, -20); sheet(1, 40); put(1, 39, 7);"
            + "sheet(2, 0); mean(0, 0, 0); mean(0, 0, 1);";

    private static final int[] CASES = new int[33];
    private static int wrong = 0;
    private static int asked = 0;

    static {
        for (Method m : ChartDesk.class.getMethods()) {
            METHODS.put(m.getName(), m);
        }
    }

    /** A call and what is due; the name "answer" stands for all the calls that read the ANSWER. */
    private record Row(String text, String name, Object[] arguments, String due) {
        static Row of(String text) {
            String[] sides = text.split("=");
            String call = sides[0].trim();
            String due = sides.length < 2 ? null : sides[1].trim();
            if (call.equals("answer")) {
                return new Row(call, call, new Object[0], due);
            }
            Matcher m = CALL.matcher(call);
            if (!m.matches() || !METHODS.containsKey(m.group(1))) {
                throw new IllegalArgumentException("no such call: " + text);
            }
            String[] words = m.group(2).isBlank() ? new String[0] : m.group(2).split(",");
            Object[] arguments = new Object[words.length];
            for (int i = 0; i < words.length; i++) {
                arguments[i] = number(words[i].trim());
            }
            return new Row(call, m.group(1), arguments, due);
        }

        private static int number(String word) {
            return switch (word) {
                case "MIN" -> Integer.MIN_VALUE;
                case "MAX" -> Integer.MAX_VALUE;
                case "NONE" -> ChartDesk.NONE;
                default -> Integer.parseInt(word);
            };
        }

        /** As a number: a boolean counts 1 or 0, a refusal by false is below 0. */
        long dueNumber() {
            return switch (due) {
                case "true" -> 1;
                case "false" -> 0;
                case "NONE" -> ChartDesk.NONE;
                default -> Long.parseLong(due);
            };
        }

        boolean isRefused() {
            return due.equals("false") || CHANGERS.contains(name) && dueNumber() < 0 && dueNumber() > -100;
        }

        boolean tells() {
            return TELLERS.contains(name) && (name.equals("best") ? dueNumber() >= 0 : dueNumber() == 1);
        }

        boolean mayChange() {
            return due == null || CHANGERS.contains(name) && !isRefused();
        }
    }

    /** An object whose calls are counted. */
    private static final class Counted {
        final ChartDesk desk = new ChartDesk();
        int calls = 0;

        long ask(String name, Object... arguments) {
            calls++;
            if (calls > MOST_CALLS) {
                throw new IllegalStateException("a case asks one object too often");
            }
            try {
                Object got = METHODS.get(name).invoke(desk, arguments);
                return got instanceof Boolean ? ((Boolean) got ? 1 : 0) : ((Number) got).longValue();
            } catch (IllegalAccessException | InvocationTargetException thrown) {
                throw new IllegalStateException(name + Arrays.toString(arguments) + " threw " + thrown.getCause());
            }
        }

        long ask(Row row) {
            return ask(row.name, row.arguments);
        }

        /** The ANSWER as a fraction in text, read by length and bits, and two words beyond that must be 0. */
        String answer() {
            StringBuilder text = new StringBuilder();
            for (int which = 0; which < 2; which++) {
                int length = (int) ask("length", which);
                BigInteger number = BigInteger.ZERO;
                for (int k = 0; k < length / 32 + 2; k++) {
                    BigInteger word = BigInteger.valueOf(ask("bits", which, k) & 0xFFFFFFFFL);
                    number = number.or(word.shiftLeft(32 * k));
                }
                text.append(which == 0 ? "" : "/").append(number);
                if (number.bitLength() != length) {
                    text.append(" (of length ").append(length).append(")");
                }
            }
            return text.toString();
        }
    }

    /** What can be seen of an object, in parts that are each few enough calls. */
    private enum View {
        BOOKS, CHARTS, LOGS, SHEETS, STEPS, STATES, KEPT_0, KEPT_1, KEPT_LOGS_0, KEPT_LOGS_1, KEPT_SHEETS_0,
        KEPT_SHEETS_1, ANSWERS;

        List<Long> look(Counted x) {
            List<Long> seen = new ArrayList<>();
            switch (this) {
                case BOOKS -> books(x, seen);
                case CHARTS -> charts(x, seen);
                case LOGS -> logs(x, seen);
                case SHEETS -> sheets(x, seen);
                case STEPS -> steps(x, seen);
                case STATES -> states(x, seen);
                case KEPT_0, KEPT_1 -> {
                    seen.add(x.ask("again", this == KEPT_0 ? 0 : 1));
                    books(x, seen);
                    charts(x, seen);
                }
                case KEPT_LOGS_0, KEPT_LOGS_1 -> {
                    seen.add(x.ask("again", this == KEPT_LOGS_0 ? 0 : 1));
                    logs(x, seen);
                }
                case KEPT_SHEETS_0, KEPT_SHEETS_1 -> {
                    seen.add(x.ask("again", this == KEPT_SHEETS_0 ? 0 : 1));
                    sheets(x, seen);
                }
                default -> {
                    seen.add(x.ask("order"));
                    seen.add(x.ask("times", 1000000));
                    seen.add((long) x.answer().hashCode());
                }
            }
            return seen;
        }

        private static void books(Counted x, List<Long> seen) {
            for (int book = 0; book < 4; book++) {
                seen.add(x.ask("whole", book));
                for (int score = -20; score <= 20; score++) {
                    seen.add(x.ask("lot", book, score));
                }
            }
        }

        private static void charts(Counted x, List<Long> seen) {
            for (int c = 0; c < 6; c++) {
                for (int what = 0; what < 6; what++) {
                    seen.add(x.ask("of", c, what));
                }
            }
        }

        private static void logs(Counted x, List<Long> seen) {
            for (int c = 0; c < 6; c++) {
                for (int i = 0; i < 40; i++) {
                    seen.add(x.ask("log", c, i));
                }
            }
        }

        /** A sheet is read by a chart that never calls. */
        private static void sheets(Counted x, List<Long> seen) {
            x.ask("chart", 0, 0, -20, 20, 0, 0, 0);
            for (int s = 0; s < 4; s++) {
                seen.add(x.ask("run", 0, s, 0, 40));
                for (int i = 0; i < 40; i++) {
                    seen.add(x.ask("log", 0, i));
                }
                x.ask("anew", 0);
            }
        }

        /** The numbers of a chart show in what it makes of each score. */
        private static void steps(Counted x, List<Long> seen) {
            for (int c = 0; c < 6; c++) {
                int state = (int) x.ask("of", c, 1);
                for (int score = -20; score <= 20; score++) {
                    seen.add(x.ask("step", c, state, score));
                }
            }
        }

        private static void states(Counted x, List<Long> seen) {
            for (int c = 0; c < 6; c++) {
                for (int state = 0; state <= 27; state++) {
                    seen.add(x.ask("step", c, state, 1));
                }
            }
        }
    }

    private Cases() {
    }

    /** The row once for each number, which stands where the row has a #. */
    static String each(String row, int... numbers) {
        StringBuilder rows = new StringBuilder();
        for (int n : numbers) {
            rows.append(row.replace("#", Integer.toString(n))).append(';');
        }
        return rows.toString();
    }

    static String many(int times, String row) {
        return (row + ";").repeat(times);
    }

    /** Book, then scores and lots by turns. */
    static String book(int book, int... scoresAndLots) {
        StringBuilder rows = new StringBuilder();
        for (int i = 0; i + 1 < scoresAndLots.length; i += 2) {
            rows.append("lots(" + book + ", " + scoresAndLots[i] + ", " + scoresAndLots[i + 1] + ");");
        }
        return rows.toString();
    }

    private static void complain(int promise, String name, String what) {
        wrong++;
        System.out.println("promise " + promise + ", " + name + ": " + what);
    }

    private static List<Row> rowsOf(String... texts) {
        List<Row> rows = new ArrayList<>();
        for (String text : String.join(";", texts).split(";")) {
            if (!text.isBlank()) {
                rows.add(Row.of(text.trim()));
            }
        }
        return rows;
    }

    /** The answers alone, for a run of so many calls that no view has room behind it. */
    static void longRunHolds(int promise, String name, String... texts) {
        CASES[promise]++;
        Counted x = new Counted();
        for (Row row : rowsOf(texts)) {
            answers(promise, name, x, row);
        }
    }

    static void holds(int promise, String name, String... texts) {
        CASES[promise]++;
        List<Row> rows = rowsOf(texts);
        Counted x = new Counted();
        List<Row> history = new ArrayList<>();
        Map<View, List<Long>> before = new HashMap<>();
        for (Row row : rows) {
            answers(promise, name, x, row);
            if (!row.mayChange()) {
                changesNothing(promise, name, history, row, before);
            }
            if (row.mayChange() || row.tells()) {
                history.add(row);
                before.clear();
            }
        }
    }

    private static void answers(int promise, String name, Counted x, Row row) {
        asked++;
        if (row.name.equals("answer")) {
            String got = x.answer();
            if (!got.equals(row.due)) {
                complain(promise, name, "the ANSWER is " + got + ", due is " + row.due);
            }
            return;
        }
        long got = x.ask(row);
        if (row.due == null) {
            boolean isAnswer = METHODS.get(row.name).getReturnType() != boolean.class;
            if (got < 0 || got == 0 && !isAnswer) {
                complain(promise, name, row.text + " furnishes nothing: " + got);
            }
        } else if (got != row.dueNumber()) {
            complain(promise, name, row.text + " answered " + got + ", due is " + row.due);
        }
    }

    private static void changesNothing(int promise, String name, List<Row> history, Row row,
            Map<View, List<Long>> before) {
        for (View view : View.values()) {
            if (view == View.ANSWERS && row.tells()) {
                continue;
            }
            List<Long> without = before.computeIfAbsent(view, v -> v.look(after(history)));
            Counted x = after(history);
            if (row.name.equals("answer")) {
                x.answer();
            } else {
                x.ask(row);
            }
            if (!view.look(x).equals(without)) {
                complain(promise, name, row.text + " has changed " + view);
            }
        }
    }

    private static Counted after(List<Row> history) {
        Counted x = new Counted();
        for (Row row : history) {
            x.ask(row);
        }
        return x;
    }

    /** Ends with exit code 1 if something was wrong, or a promise has no case. */
    static void end() {
        int cases = 0;
        for (int promise = 1; promise <= 32; promise++) {
            cases += CASES[promise];
            if (CASES[promise] == 0) {
                complain(promise, "all", "there is no case");
            }
        }
        System.out.println(cases + " cases, " + asked + " answers: "
                + (wrong == 0 ? "all are as due" : wrong + " are not as due"));
        if (wrong != 0) {
            System.exit(1);
        }
    }
}
