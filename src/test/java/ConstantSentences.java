import java.util.LinkedHashMap;
import java.util.Map;
import java.util.function.ToLongFunction;

/** The description's sentences about errors, and what each constant stands for. */
final class ConstantSentences {
    private static final int MIN = Ships.MIN;
    private static final int MAX = Ships.MAX;

    private ConstantSentences() {
    }

    static void all(Sentences s) {
        s.section("Description");
        s.holds("Errors. A method that returns an error code changes nothing.", ConstantSentences::nothingChanges);
        s.holds("All error codes are less than every other result but a digest.", ConstantSentences::leastOfAll);
        s.holds("Where several errors apply, the one that is listed first is returned.",
            ConstantSentences::firstListed);
        s.onlyNames("The constants:");
        s.holds("- `NO_SUCH_SURVEY = -9000000000000000001L`: A survey number is not 0 to 3.",
            check -> refusals(check, "NO_SUCH_SURVEY", DraftSurvey.NO_SUCH_SURVEY, -9000000000000000001L));
        s.holds("- `NO_SUCH_ITEM = -9000000000000000002L`: A mark, a column, a row or a kind of deduction does not "
            + "exist.", check -> refusals(check, "NO_SUCH_ITEM", DraftSurvey.NO_SUCH_ITEM, -9000000000000000002L));
        s.holds("- `OUT_OF_RANGE = -9000000000000000003L`: A value is out of range.",
            check -> refusals(check, "OUT_OF_RANGE", DraftSurvey.OUT_OF_RANGE, -9000000000000000003L));
        s.holds("- `INVALID_ROW = -9000000000000000004L`: The buffer does not hold a complete table row.",
            check -> rowRefused(check, "7,x", DraftSurvey.INVALID_ROW, -9000000000000000004L));
        s.holds("- `NOT_ASCENDING = -9000000000000000005L`: The row would break the order of the table.",
            check -> rowRefused(check, "100,1000,1,1,1", DraftSurvey.NOT_ASCENDING, -9000000000000000005L));
        s.holds("- `FULL = -9000000000000000006L`: A container is full.", ConstantSentences::full);
        s.holds("- `NOT_COVERED = -9000000000000000007L`: A draft is not covered by the table.",
            ConstantSentences::notCovered);
        s.onlyNames("The constructor and the methods follow, a promise each: the signature, then what it does.");
    }

    /** Calls that a laden ship refuses, by the name of the code; where several apply, the first listed. */
    private static Map<String, ToLongFunction<DraftSurvey>> refusedCalls(String code) {
        Map<String, ToLongFunction<DraftSurvey>> calls = new LinkedHashMap<>();
        switch (code) {
            case "NO_SUCH_SURVEY": noSuchSurvey(calls); break;
            case "NO_SUCH_ITEM": noSuchItem(calls); break;
            default: outOfRange(calls); break;
        }
        return calls;
    }

    private static void noSuchSurvey(Map<String, ToLongFunction<DraftSurvey>> calls) {
        for (int n : Ships.NO_SURVEYS) {
            calls.put("setReading(" + n + ", 0, 1)", x -> x.setReading(n, 0, 1));
            calls.put("reading(" + n + ", 0)", x -> x.reading(n, 0));
            calls.put("setDensity(" + n + ", 1000)", x -> x.setDensity(n, 1000));
            calls.put("setDeduction(" + n + ", 0, 1)", x -> x.setDeduction(n, 0, 1));
            calls.put("trim(" + n + ")", x -> x.trim(n));
            calls.put("deflection(" + n + ")", x -> x.deflection(n));
            calls.put("heel(" + n + ")", x -> x.heel(n));
            calls.put("quarterMean(" + n + ")", x -> x.quarterMean(n));
            calls.put("firstCorrection(" + n + ")", x -> x.firstCorrection(n));
            calls.put("secondCorrection(" + n + ")", x -> x.secondCorrection(n));
            calls.put("displacement(" + n + ", 0)", x -> x.displacement(n, 0));
            calls.put("netWeight(" + n + ")", x -> x.netWeight(n));
            calls.put("cargo(" + n + ", 0)", x -> x.cargo(n, 0));
            calls.put("cargo(0, " + n + ")", x -> x.cargo(0, n));
            calls.put("cargoLow(" + n + ", 0)", x -> x.cargoLow(n, 0));
            calls.put("cargoLow(0, " + n + ")", x -> x.cargoLow(0, n));
            calls.put("cargoHigh(" + n + ", 0)", x -> x.cargoHigh(n, 0));
            calls.put("cargoHigh(0, " + n + ")", x -> x.cargoHigh(0, n));
        }
    }

    private static void noSuchItem(Map<String, ToLongFunction<DraftSurvey>> calls) {
        for (int n : new int[] {-1, MIN, MAX}) {
            calls.put("setReading(0, " + n + ", 1)", x -> x.setReading(0, n, 1));
            calls.put("reading(0, " + n + ")", x -> x.reading(0, n));
            calls.put("setDeduction(0, " + n + ", 1)", x -> x.setDeduction(0, n, 1));
            calls.put("tableValue(" + n + ", 5500)", x -> x.tableValue(n, 5500));
            calls.put("rowDraft(" + n + ")", x -> x.rowDraft(n));
        }
        calls.put("setReading(3, 6, 1)", x -> x.setReading(3, 6, 1));
        calls.put("reading(3, 6)", x -> x.reading(3, 6));
        calls.put("setDeduction(3, 4, 1)", x -> x.setDeduction(3, 4, 1));
        calls.put("tableValue(4, 5500)", x -> x.tableValue(4, 5500));
        calls.put("rowDraft(3)", x -> x.rowDraft(3));
    }

    private static void outOfRange(Map<String, ToLongFunction<DraftSurvey>> calls) {
        for (int n : new int[] {-1, MIN, MAX}) {
            calls.put("append(" + n + ")", x -> x.append(n));
            calls.put("setLength(" + n + ")", x -> x.setLength(n));
            calls.put("setMargin(" + n + ")", x -> x.setMargin(n));
            calls.put("setReading(1, 5, " + n + ")", x -> x.setReading(1, 5, n));
            calls.put("setDensity(1, " + n + ")", x -> x.setDensity(1, n));
            calls.put("setDeduction(1, 3, " + n + ")", x -> x.setDeduction(1, 3, n));
        }
        calls.put("append(31)", x -> x.append(31));
        calls.put("append(127)", x -> x.append(127));
        calls.put("setLength(9999)", x -> x.setLength(9999));
        calls.put("setLength(400001)", x -> x.setLength(400001));
        calls.put("setMargin(101)", x -> x.setMargin(101));
        calls.put("setReading(2, 0, 30001)", x -> x.setReading(2, 0, 30001));
        calls.put("setDensity(2, 949)", x -> x.setDensity(2, 949));
        calls.put("setDensity(2, 1051)", x -> x.setDensity(2, 1051));
        calls.put("setDeduction(2, 0, 10000000)", x -> x.setDeduction(2, 0, 10000000));
        calls.put("displacement(2, -1001)", x -> x.displacement(2, -1001));
        calls.put("displacement(2, 1001)", x -> x.displacement(2, 1001));
        calls.put("displacement(2, MIN)", x -> x.displacement(2, MIN));
        calls.put("displacement(2, MAX)", x -> x.displacement(2, MAX));
    }

    private static void refusals(Check check, String code, long constant, long due) {
        check.due(code, constant, due);
        refusedCalls(code).forEach((call, calling) -> check.due(call, calling.applyAsLong(Ships.laden()), due));
    }

    private static void rowRefused(Check check, String row, long constant, long due) {
        check.due("the constant", constant, due);
        DraftSurvey x = Ships.withRows("100,1000,1,1,1");
        Ships.type(x, row);
        check.due("addRow() of " + row, x.addRow(), due);
    }

    private static void full(Check check) {
        check.due("FULL", DraftSurvey.FULL, -9000000000000000006L);
        check.due("append('1') to 40 characters", Ships.withFullBuffer().append('1'), -9000000000000000006L);
        check.due("addRow() to 10 rows", Ships.withTenRowsAnd("101,1000,1,1,1").addRow(), -9000000000000000006L);
    }

    private static void notCovered(Check check) {
        long due = -9000000000000000007L;
        check.due("NOT_COVERED", DraftSurvey.NOT_COVERED, due);
        DraftSurvey x = Ships.withRows("100,1000,1,1,1", "200,2000,1,1,1");
        long[] answers = {x.tableValue(0, 99), x.tableValue(0, 201), x.firstCorrection(0), x.secondCorrection(0),
            x.displacement(0, 0), x.netWeight(0), x.cargo(0, 1), x.cargoLow(0, 1), x.cargoHigh(0, 1), x.heaviest(),
            x.draftFor(2001)};
        for (int i = 0; i < answers.length; i++) {
            check.due("answer " + i, answers[i], due);
        }
    }

    private static void nothingChanges(Check check) {
        String[] codes = {"NO_SUCH_SURVEY", "NO_SUCH_ITEM", "OUT_OF_RANGE"};
        long[] constants = {DraftSurvey.NO_SUCH_SURVEY, DraftSurvey.NO_SUCH_ITEM, DraftSurvey.OUT_OF_RANGE};
        for (int i = 0; i < codes.length; i++) {
            long code = constants[i];
            refusedCalls(codes[i]).forEach((call, calling) -> Ships.refused(check, call, Ships::laden, calling, code));
        }
        Ships.refused(check, "addRow() of no row", Ships::laden, DraftSurvey::addRow, DraftSurvey.INVALID_ROW);
        Ships.refused(check, "tableValue(0, 4999)", Ships::laden, x -> x.tableValue(0, 4999), DraftSurvey.NOT_COVERED);
        Ships.refused(check, "draftFor(144001)", Ships::laden, x -> x.draftFor(144001), DraftSurvey.NOT_COVERED);
        Ships.refused(check, "displacement(0, -1000)", Ships::laden, x -> x.displacement(0, -1000),
            DraftSurvey.NOT_COVERED);
        Ships.refused(check, "append('1') to 40", Ships::withFullBuffer, x -> x.append('1'), DraftSurvey.FULL);
        Ships.refused(check, "addRow() to 10 rows", () -> Ships.withTenRowsAnd("101,1000,1,1,1"), DraftSurvey::addRow,
            DraftSurvey.FULL);
        Ships.refused(check, "addRow() of a row twice", () -> {
            DraftSurvey x = Ships.withRows("100,1000,1,1,1");
            Ships.type(x, "100,1000,1,1,1");
            return x;
        }, DraftSurvey::addRow, DraftSurvey.NOT_ASCENDING);
        refusedWithoutTable(check);
    }

    private static void refusedWithoutTable(Check check) {
        Map<String, ToLongFunction<DraftSurvey>> calls = new LinkedHashMap<>();
        calls.put("tableValue(0, 0)", x -> x.tableValue(0, 0));
        calls.put("firstCorrection(0)", x -> x.firstCorrection(0));
        calls.put("secondCorrection(1)", x -> x.secondCorrection(1));
        calls.put("displacement(2, 0)", x -> x.displacement(2, 0));
        calls.put("netWeight(3)", x -> x.netWeight(3));
        calls.put("cargo(0, 1)", x -> x.cargo(0, 1));
        calls.put("cargoLow(0, 1)", x -> x.cargoLow(0, 1));
        calls.put("cargoHigh(0, 1)", x -> x.cargoHigh(0, 1));
        calls.put("draftFor(0)", x -> x.draftFor(0));
        calls.put("heaviest()", DraftSurvey::heaviest);
        calls.forEach((call, calling) -> Ships.refused(check, call + " without a table", DraftSurvey::new, calling,
            DraftSurvey.NOT_COVERED));
    }

    private static void leastOfAll(Check check) {
        DraftSurvey x = Ships.withRows("9500,0,20000,-100000,200000", "10500,0,20000,-100000,0",
            "19500,9999999,20000,100000,0", "20500,9999999,20000,100000,200000");
        x.setLength(10000);
        x.setMargin(100);
        Ships.floating(x, 0, 10000, 30000);
        Ships.floating(x, 1, 20000, 30000);
        Ships.drafts(x, 2, 30000, 0, 30000);
        for (int kind = 0; kind < 4; kind++) {
            x.setDeduction(0, kind, 9999999);
        }
        x.setDensity(0, 1050);
        long[] results = {x.firstCorrection(0), x.secondCorrection(0), x.displacement(0, 0), x.displacement(0, 100),
            x.netWeight(0), x.cargo(1, 0), x.cargoLow(1, 0), x.cargoHigh(1, 0), x.cargo(0, 1), x.trim(0),
            x.deflection(2), x.heel(0), x.quarterMean(0), x.tableValue(2, 9500), x.draftFor(MIN), x.heaviest()};
        long[] codes = {DraftSurvey.NO_SUCH_SURVEY, DraftSurvey.NO_SUCH_ITEM, DraftSurvey.OUT_OF_RANGE,
            DraftSurvey.INVALID_ROW, DraftSurvey.NOT_ASCENDING, DraftSurvey.FULL, DraftSurvey.NOT_COVERED};
        for (int i = 0; i < results.length; i++) {
            for (long code : codes) {
                check.due(code + " is less than the result " + i, code < results[i] ? 1 : 0, 1);
            }
        }
    }

    private static void firstListed(Check check) {
        Map<String, ToLongFunction<DraftSurvey>> surveyFirst = new LinkedHashMap<>();
        for (int n : Ships.NO_SURVEYS) {
            surveyFirst.put("setReading(" + n + ", 6, -1)", x -> x.setReading(n, 6, -1));
            surveyFirst.put("setReading(" + n + ", 0, 30001)", x -> x.setReading(n, 0, 30001));
            surveyFirst.put("setReading(" + n + ", -1, 0)", x -> x.setReading(n, -1, 0));
            surveyFirst.put("reading(" + n + ", 6)", x -> x.reading(n, 6));
            surveyFirst.put("setDensity(" + n + ", 949)", x -> x.setDensity(n, 949));
            surveyFirst.put("setDeduction(" + n + ", 4, -1)", x -> x.setDeduction(n, 4, -1));
            surveyFirst.put("setDeduction(" + n + ", 0, 10000000)", x -> x.setDeduction(n, 0, 10000000));
            surveyFirst.put("setDeduction(" + n + ", -1, 0)", x -> x.setDeduction(n, -1, 0));
            surveyFirst.put("displacement(" + n + ", 1001)", x -> x.displacement(n, 1001));
            surveyFirst.put("displacement(" + n + ", 0)", x -> x.displacement(n, 0));
            surveyFirst.put("cargo(0, " + n + ")", x -> x.cargo(0, n));
            surveyFirst.put("cargo(" + n + ", 0)", x -> x.cargo(n, 0));
            surveyFirst.put("cargoLow(0, " + n + ")", x -> x.cargoLow(0, n));
            surveyFirst.put("cargoHigh(" + n + ", 0)", x -> x.cargoHigh(n, 0));
        }
        surveyFirst.forEach((call, calling) -> Ships.refused(check, call + " without a table", DraftSurvey::new,
            calling, DraftSurvey.NO_SUCH_SURVEY));
        Map<String, ToLongFunction<DraftSurvey>> itemFirst = new LinkedHashMap<>();
        itemFirst.put("setReading(0, 6, -1)", x -> x.setReading(0, 6, -1));
        itemFirst.put("setReading(0, -1, 30001)", x -> x.setReading(0, -1, 30001));
        itemFirst.put("setDeduction(0, 4, -1)", x -> x.setDeduction(0, 4, -1));
        itemFirst.put("setDeduction(0, -1, 10000000)", x -> x.setDeduction(0, -1, 10000000));
        itemFirst.put("tableValue(4, 0)", x -> x.tableValue(4, 0));
        itemFirst.put("tableValue(-1, 0)", x -> x.tableValue(-1, 0));
        itemFirst.forEach((call, calling) -> Ships.refused(check, call + " without a table", DraftSurvey::new,
            calling, DraftSurvey.NO_SUCH_ITEM));
        Ships.refused(check, "displacement(0, 1001) without a table", DraftSurvey::new, x -> x.displacement(0, 1001),
            DraftSurvey.OUT_OF_RANGE);
        Ships.refused(check, "append(127) to 40", Ships::withFullBuffer, x -> x.append(127), DraftSurvey.OUT_OF_RANGE);
        Ships.refused(check, "addRow() of 1,1,1,1 to 10 rows", () -> Ships.withTenRowsAnd("1,1,1,1"),
            DraftSurvey::addRow, DraftSurvey.INVALID_ROW);
        Ships.refused(check, "addRow() of 1,1,1,1,1 to 10 rows", () -> Ships.withTenRowsAnd("1,1,1,1,1"),
            DraftSurvey::addRow, DraftSurvey.FULL);
    }
}
