/** Promises 1 to 8, 26 and 28: the new object, the buffer, the rows and the table's values. */
public final class TableTest {
    private static final Check CHECK = new Check("TableTest");
    private static final int MIN = Integer.MIN_VALUE;
    private static final int MAX = Integer.MAX_VALUE;

    public static void main(String[] args) {
        newObject();
        append();
        clearBuffer();
        errorPositionOfNumbers();
        errorPositionOfLimits();
        errorPositionOfLcf();
        addRow();
        addRowErrors();
        addRowToFullTable();
        clearTable();
        rowDraft();
        tableValue();
        tableValueWithoutRows();
        draftFor();
        draftForOnLevelParts();
        CHECK.end();
    }

    private static void newObject() {
        DraftSurvey x = new DraftSurvey();
        CHECK.due("rowCount()", x.rowCount(), 0);
        CHECK.due("clearBuffer()", x.clearBuffer(), 0);
        CHECK.due("clearTable()", x.clearTable(), 0);
        CHECK.due("errorPosition()", x.errorPosition(), 0);
        CHECK.due("heaviest()", x.heaviest(), DraftSurvey.NOT_COVERED);
        for (int survey = 0; survey < 4; survey++) {
            for (int mark = 0; mark < 6; mark++) {
                CHECK.due("reading(" + survey + ", " + mark + ")", x.reading(survey, mark), 0);
            }
            CHECK.due("setDensity(" + survey + ", 1000)", x.setDensity(survey, 1000), 1025);
            for (int kind = 0; kind < 4; kind++) {
                CHECK.due("setDeduction(" + survey + ", " + kind + ", 1)", x.setDeduction(survey, kind, 1), 0);
            }
        }
        CHECK.due("setLength(10000)", x.setLength(10000), 180000);
        CHECK.due("setMargin(1)", x.setMargin(1), 0);
        DraftSurvey y = new DraftSurvey();
        CHECK.due("setLength(10000) of another", y.setLength(10000), 180000);
        CHECK.due("setMargin(1) of another", y.setMargin(1), 0);
        CHECK.due("setDensity(0, 1000) of another", y.setDensity(0, 1000), 1025);
    }

    private static void append() {
        DraftSurvey x = new DraftSurvey();
        int[] refused = {31, 127, 0, -1, 10, 128, 300, 65536 + 48, MIN, MAX};
        for (int ch : refused) {
            CHECK.due("append(" + ch + ")", x.append(ch), DraftSurvey.OUT_OF_RANGE);
        }
        CHECK.due("append(32)", x.append(32), 1);
        CHECK.due("append(126)", x.append(126), 2);
        for (int length = 3; length <= 40; length++) {
            CHECK.due("append(48) up to " + length, x.append(48), length);
        }
        CHECK.due("append(48) at 40", x.append(48), DraftSurvey.FULL);
        CHECK.due("append(31) at 40", x.append(31), DraftSurvey.OUT_OF_RANGE);
        CHECK.due("append(127) at 40", x.append(127), DraftSurvey.OUT_OF_RANGE);
        CHECK.due("errorPosition()", x.errorPosition(), 0);
        CHECK.due("clearBuffer()", x.clearBuffer(), 40);
        CHECK.due("append(48) after clearing", x.append(48), 1);
    }

    private static void clearBuffer() {
        DraftSurvey x = new DraftSurvey();
        CHECK.row(x, "5,9,1,0,0");
        CHECK.type(x, "7,x");
        CHECK.due("clearBuffer()", x.clearBuffer(), 3);
        CHECK.due("clearBuffer() again", x.clearBuffer(), 0);
        CHECK.due("errorPosition()", x.errorPosition(), 0);
        CHECK.due("addRow()", x.addRow(), DraftSurvey.INVALID_ROW);
        CHECK.due("rowCount()", x.rowCount(), 1);
    }

    private static void error(String text, int position) {
        DraftSurvey x = new DraftSurvey();
        CHECK.type(x, text);
        CHECK.due("errorPosition() of " + text, x.errorPosition(), position);
        CHECK.due("errorPosition() again of " + text, x.errorPosition(), position);
        CHECK.due("clearBuffer() of " + text, x.clearBuffer(), text.length());
    }

    private static void errorPositionOfNumbers() {
        error("", 0);
        error("0", 1);
        error("00", 1);
        error("01", 1);
        error("0,", 2);
        error(",", 0);
        error("-1", 0);
        error(" 1", 0);
        error("+1", 0);
        error("1 ", 1);
        error("1.5", 1);
        error("1/", 1);
        error("1:", 1);
        error("1,,", 2);
        error("1,2,,", 4);
        error("1,02", 3);
        error("1,2,00", 5);
        error("1,2,3,04", 7);
        error("1,2,3,4,05", 9);
        error("10,100,1000,10000,100000", 24);
        error("0,0,0,0,0", 9);
        error("0,0,0,0,00", 9);
        error("1,2,3,4,", 8);
        error("1,2,3,4,5,", 9);
        error("1,2,3,4,5,6", 9);
        error("1,2,3,4,5x", 9);
        error("1,2,3,4,5 ", 9);
        error("1;2,3,4,5", 1);
        error("x,y", 0);
    }

    private static void errorPositionOfLimits() {
        error("30000,", 6);
        error("30001", 4);
        error("29999", 5);
        error("31", 2);
        error("31000", 4);
        error("99999", 4);
        error("300000", 5);
        error("1,9999999,", 10);
        error("1,10000000", 9);
        error("1,99999999", 9);
        error("1,2,20000,", 10);
        error("1,2,20001", 8);
        error("1,2,30000", 8);
        error("1,2,200000", 9);
        error("1,2,3,100000,", 13);
        error("1,2,3,100001", 11);
        error("1,2,3,99999", 11);
        error("1,2,3,999999", 11);
        error("1,2,3,4,200000", 14);
        error("1,2,3,4,200001", 13);
        error("1,2,3,4,199999", 14);
        error("1,2,3,4,300000", 13);
        error("1,2,3,4,2000000", 14);
        error("30000,9999999,20000,-100000,200000", 34);
        error("99999999999999999999999999999999999999", 4);
        error("1,2,3,-99999999999999999999999999999", 12);
    }

    private static void errorPositionOfLcf() {
        error("1,2,3,-", 7);
        error("1,2,3,-0", 7);
        error("1,2,3,-,", 7);
        error("1,2,3,--", 7);
        error("1,2,3,-1", 8);
        error("1,2,3,-1-", 8);
        error("1,2,3,1-", 7);
        error("1,2,3,0-", 7);
        error("1,2,3,-10,", 10);
        error("1,2,3,-01", 7);
        error("1,2,3,-100000", 13);
        error("1,2,3,-100001", 12);
        error("1,2,3,-1000000", 13);
        error("1,-2", 2);
        error("1,2,-3", 4);
        error("1,2,3,4,-5", 8);
        error("1,2,3,-4,-5", 9);
    }

    private static void addRow() {
        DraftSurvey x = new DraftSurvey();
        CHECK.row(x, "100,2000,30,-40,500");
        CHECK.due("clearBuffer()", x.clearBuffer(), 0);
        CHECK.due("rowDraft(0)", x.rowDraft(0), 100);
        CHECK.due("tableValue(0, 100)", x.tableValue(0, 100), 2000);
        CHECK.due("tableValue(1, 100)", x.tableValue(1, 100), 30);
        CHECK.due("tableValue(2, 100)", x.tableValue(2, 100), -40);
        CHECK.due("tableValue(3, 100)", x.tableValue(3, 100), 500);
        CHECK.row(x, "101,2000,0,0,0");
        CHECK.row(x, "30000,9999999,20000,-100000,200000");
        CHECK.due("rowDraft(1)", x.rowDraft(1), 101);
        CHECK.due("rowDraft(2)", x.rowDraft(2), 30000);
        CHECK.due("tableValue(0, 30000)", x.tableValue(0, 30000), 9999999);
        CHECK.due("tableValue(1, 30000)", x.tableValue(1, 30000), 20000);
        CHECK.due("tableValue(2, 30000)", x.tableValue(2, 30000), -100000);
        CHECK.due("tableValue(3, 30000)", x.tableValue(3, 30000), 200000);
        CHECK.due("tableValue(2, 101)", x.tableValue(2, 101), 0);
    }

    private static void refused(DraftSurvey x, String text, long code) {
        long rows = x.rowCount();
        CHECK.type(x, text);
        CHECK.due("addRow() of " + text, x.addRow(), code);
        CHECK.due("rowCount() after " + text, x.rowCount(), rows);
        CHECK.due("clearBuffer() after " + text, x.clearBuffer(), text.length());
    }

    private static void addRowErrors() {
        DraftSurvey x = new DraftSurvey();
        CHECK.due("addRow() of nothing", x.addRow(), DraftSurvey.INVALID_ROW);
        String[] invalid = {"1", "1,", "1,2,3,4", "1,2,3,4,", "1,2,3,-", "1,2,3,-,5", "1,2,3,4,5,", "1,2,3,4,5,6",
            "1,2,3,4,5 ", "01,2,3,4,5", "1,2,3,-0,5", "30001,2,3,4,5", "1,10000000,3,4,5", "1,2,20001,4,5",
            "1,2,3,100001,5", "1,2,3,-100001,5", "1,2,3,4,200001", "-1,2,3,4,5", "1,2,3,4,-5"};
        for (String text : invalid) {
            refused(x, text, DraftSurvey.INVALID_ROW);
        }
        CHECK.row(x, "100,1000,3,4,5");
        refused(x, "100,1000,3,4,5", DraftSurvey.NOT_ASCENDING);
        refused(x, "99,2000,3,4,5", DraftSurvey.NOT_ASCENDING);
        refused(x, "100,2000,3,4,5", DraftSurvey.NOT_ASCENDING);
        refused(x, "101,999,3,4,5", DraftSurvey.NOT_ASCENDING);
        refused(x, "0,0,0,0,0", DraftSurvey.NOT_ASCENDING);
        refused(x, "1,2,3,4", DraftSurvey.INVALID_ROW);
        CHECK.row(x, "101,1000,0,-4,0");
        refused(x, "101,1001,3,4,5", DraftSurvey.NOT_ASCENDING);
        CHECK.due("tableValue(2, 101)", x.tableValue(2, 101), -4);
    }

    private static void addRowToFullTable() {
        DraftSurvey x = new DraftSurvey();
        for (int row = 0; row < 10; row++) {
            CHECK.row(x, 10 * row + "," + 100 * row + "," + row + ",-" + (row + 1) + "," + 2 * row);
        }
        refused(x, "91,901,1,1,1", DraftSurvey.FULL);
        refused(x, "1,1,1,1,1", DraftSurvey.FULL);
        refused(x, "91,901,1,1", DraftSurvey.INVALID_ROW);
        for (int row = 0; row < 10; row++) {
            CHECK.due("rowDraft(" + row + ")", x.rowDraft(row), 10 * row);
            CHECK.due("tableValue(0, " + 10 * row + ")", x.tableValue(0, 10 * row), 100 * row);
            CHECK.due("tableValue(1, " + 10 * row + ")", x.tableValue(1, 10 * row), row);
            CHECK.due("tableValue(2, " + 10 * row + ")", x.tableValue(2, 10 * row), -(row + 1));
            CHECK.due("tableValue(3, " + 10 * row + ")", x.tableValue(3, 10 * row), 2 * row);
        }
        CHECK.due("rowDraft(10)", x.rowDraft(10), DraftSurvey.NO_SUCH_ITEM);
        CHECK.due("tableValue(0, 91)", x.tableValue(0, 91), DraftSurvey.NOT_COVERED);
        CHECK.due("draftFor(900)", x.draftFor(900), 90);
        CHECK.due("draftFor(901)", x.draftFor(901), DraftSurvey.NOT_COVERED);
    }

    private static void clearTable() {
        DraftSurvey x = new DraftSurvey();
        CHECK.row(x, "100,1000,3,4,5");
        CHECK.row(x, "200,2000,3,4,5");
        CHECK.type(x, "50,1,2");
        CHECK.due("clearTable()", x.clearTable(), 2);
        CHECK.due("rowCount()", x.rowCount(), 0);
        CHECK.due("clearTable() again", x.clearTable(), 0);
        CHECK.due("rowDraft(0)", x.rowDraft(0), DraftSurvey.NO_SUCH_ITEM);
        CHECK.due("tableValue(0, 100)", x.tableValue(0, 100), DraftSurvey.NOT_COVERED);
        CHECK.due("draftFor(0)", x.draftFor(0), DraftSurvey.NOT_COVERED);
        CHECK.due("clearBuffer()", x.clearBuffer(), 6);
        CHECK.row(x, "50,1,2,3,4");
        CHECK.due("rowDraft(0) anew", x.rowDraft(0), 50);
        CHECK.due("rowDraft(1) anew", x.rowDraft(1), DraftSurvey.NO_SUCH_ITEM);
        CHECK.due("tableValue(0, 200) anew", x.tableValue(0, 200), DraftSurvey.NOT_COVERED);
    }

    private static void rowDraft() {
        DraftSurvey x = new DraftSurvey();
        CHECK.due("rowDraft(0) without rows", x.rowDraft(0), DraftSurvey.NO_SUCH_ITEM);
        CHECK.row(x, "0,0,0,0,0");
        CHECK.row(x, "7,0,0,0,0");
        CHECK.due("rowDraft(0)", x.rowDraft(0), 0);
        CHECK.due("rowDraft(1)", x.rowDraft(1), 7);
        int[] missing = {-1, 2, 9, 10, 11, MIN, MAX};
        for (int row : missing) {
            CHECK.due("rowDraft(" + row + ")", x.rowDraft(row), DraftSurvey.NO_SUCH_ITEM);
        }
    }

    private static void values(DraftSurvey x, int draft, long displacement, long tpc, long lcf, long mtc) {
        long[] due = {displacement, tpc, lcf, mtc};
        for (int column = 0; column < 4; column++) {
            CHECK.due("tableValue(" + column + ", " + draft + ")", x.tableValue(column, draft), due[column]);
        }
    }

    private static void tableValue() {
        DraftSurvey x = new DraftSurvey();
        CHECK.row(x, "100,1000,30,-10,500");
        CHECK.row(x, "103,1010,20,0,500");
        CHECK.row(x, "110,1010,0,-100,507");
        values(x, 100, 1000, 30, -10, 500);
        values(x, 101, 1003, 26, -7, 500);
        values(x, 102, 1006, 23, -4, 500);
        values(x, 103, 1010, 20, 0, 500);
        values(x, 104, 1010, 17, -15, 501);
        values(x, 109, 1010, 2, -86, 506);
        values(x, 110, 1010, 0, -100, 507);
        int[] uncovered = {99, 111, 0, -1, MIN, MAX};
        for (int draft : uncovered) {
            values(x, draft, DraftSurvey.NOT_COVERED, DraftSurvey.NOT_COVERED, DraftSurvey.NOT_COVERED,
                DraftSurvey.NOT_COVERED);
        }
        int[] missing = {-1, 4, 5, MIN, MAX};
        for (int column : missing) {
            CHECK.due("tableValue(" + column + ", 100)", x.tableValue(column, 100), DraftSurvey.NO_SUCH_ITEM);
            CHECK.due("tableValue(" + column + ", 99)", x.tableValue(column, 99), DraftSurvey.NO_SUCH_ITEM);
        }
    }

    private static void tableValueWithoutRows() {
        DraftSurvey x = new DraftSurvey();
        CHECK.due("tableValue(0, 0)", x.tableValue(0, 0), DraftSurvey.NOT_COVERED);
        CHECK.due("tableValue(3, 30000)", x.tableValue(3, 30000), DraftSurvey.NOT_COVERED);
        CHECK.due("tableValue(4, 0)", x.tableValue(4, 0), DraftSurvey.NO_SUCH_ITEM);
        CHECK.due("tableValue(-1, 0)", x.tableValue(-1, 0), DraftSurvey.NO_SUCH_ITEM);
        CHECK.row(x, "0,0,0,0,0");
        CHECK.row(x, "30000,9999999,20000,100000,200000");
        CHECK.due("tableValue(0, 29999)", x.tableValue(0, 29999), 9999665);
        CHECK.due("tableValue(2, 1)", x.tableValue(2, 1), 3);
    }

    private static void draftFor() {
        DraftSurvey x = new DraftSurvey();
        CHECK.due("draftFor(0) without rows", x.draftFor(0), DraftSurvey.NOT_COVERED);
        CHECK.due("draftFor(MIN) without rows", x.draftFor(MIN), DraftSurvey.NOT_COVERED);
        CHECK.row(x, "100,1000,0,0,0");
        CHECK.row(x, "103,1010,0,0,0");
        CHECK.row(x, "113,1013,0,0,0");
        int[] displacements = {MIN, -1, 0, 999, 1000, 1001, 1003, 1004, 1006, 1007, 1010, 1011, 1012, 1013};
        int[] due = {100, 100, 100, 100, 100, 101, 101, 102, 102, 103, 103, 107, 110, 113};
        for (int i = 0; i < due.length; i++) {
            CHECK.due("draftFor(" + displacements[i] + ")", x.draftFor(displacements[i]), due[i]);
        }
        CHECK.due("draftFor(1014)", x.draftFor(1014), DraftSurvey.NOT_COVERED);
        CHECK.due("draftFor(MAX)", x.draftFor(MAX), DraftSurvey.NOT_COVERED);
    }

    private static void draftForOnLevelParts() {
        DraftSurvey x = new DraftSurvey();
        CHECK.row(x, "10,50,0,0,0");
        CHECK.row(x, "20,50,0,0,0");
        CHECK.row(x, "30,60,0,0,0");
        CHECK.row(x, "40,60,0,0,0");
        CHECK.due("draftFor(49)", x.draftFor(49), 10);
        CHECK.due("draftFor(50)", x.draftFor(50), 10);
        CHECK.due("draftFor(51)", x.draftFor(51), 21);
        CHECK.due("draftFor(60)", x.draftFor(60), 30);
        CHECK.due("draftFor(61)", x.draftFor(61), DraftSurvey.NOT_COVERED);
        CHECK.row(x, "50,61,0,0,0");
        CHECK.due("draftFor(61) with a row", x.draftFor(61), 50);
        x.clearTable();
        CHECK.row(x, "0,0,0,0,0");
        CHECK.row(x, "30000,9999999,0,0,0");
        CHECK.due("draftFor(333)", x.draftFor(333), 1);
        CHECK.due("draftFor(334)", x.draftFor(334), 2);
        CHECK.due("draftFor(9999998)", x.draftFor(9999998), 30000);
        CHECK.due("draftFor(9999665)", x.draftFor(9999665), 29999);
        CHECK.due("draftFor(9999666)", x.draftFor(9999666), 30000);
    }
}
