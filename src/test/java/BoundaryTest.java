/** Each sentence of the document that names a boundary case, by promise: the last that may be and the first that may not. */
public final class BoundaryTest {
    private BoundaryTest() {
    }

    public static void main(String[] arguments) {
        BookCases.all();
        ChartCases.all();
        SheetCases.all();
        WaitCases.all();
        AnswerCases.all();
        Cases.end();
    }
}
