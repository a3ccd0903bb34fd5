/** Promises 5 to 8, 26 and 28: the rows of the table and what is read from it. */
final class TableSentences {
    private static final long NOT_COVERED = DraftSurvey.NOT_COVERED;
    private static final long NO_SUCH_ITEM = DraftSurvey.NO_SUCH_ITEM;
    private static final long NOT_ASCENDING = DraftSurvey.NOT_ASCENDING;
    private static final int MIN = Ships.MIN;
    private static final int MAX = Ships.MAX;

    private TableSentences() {
    }

    static void all(Sentences s) {
        s.section("Promise 5: addRow");
        s.holds("Adds the row in the buffer behind the last row of the table", TableSentences::rowAdded);
        s.holds("and empties the buffer.", TableSentences::bufferEmptied);
        s.holds("Returns the number of rows;", TableSentences::numberOfRows);
        s.holds("INVALID_ROW if the buffer does not hold a complete row;", TableSentences::incompleteRow);
        s.holds("FULL if the table has 10 rows;", TableSentences::fullTable);
        s.holds("NOT_ASCENDING if the table has a row and the new draft is not greater than the draft of the last row,",
            TableSentences::draftNotGreater);
        s.holds("or the new displacement is less than its displacement.", TableSentences::displacementLess);
        s.section("Promise 6: clearTable");
        s.holds("Removes all rows of the table.", TableSentences::rowsRemoved);
        s.holds("Returns the number of rows before the call.", TableSentences::rowsBefore);
        s.section("Promise 7: rowDraft");
        s.holds("Returns the draft of a row.", TableSentences::draftsOfRows);
        s.holds("- `row`: index of the row, from 0", TableSentences::fromZero);
        s.onlyNames("Returns the draft;");
        s.holds("NO_SUCH_ITEM if there is no such row.", TableSentences::noSuchRow);
        tableValue(s);
        draftFor(s);
        s.section("Promise 28: rowCount");
        s.holds("Returns the number of rows of the table.", TableSentences::rowCount);
        s.onlyNames("Returns the number of rows.");
    }

    private static void tableValue(Sentences s) {
        s.section("Promise 8: tableValue");
        s.holds("Interpolates a column of the table.", TableSentences::interpolatedColumns);
        s.holds("- `column`: 0 to 3", TableSentences::columns);
        s.holds("- `draft`: any draft", TableSentences::anyDraft);
        s.holds("Returns the value of the column at that draft;", TableSentences::valueAtDraft);
        s.holds("NO_SUCH_ITEM if the column does not exist;", TableSentences::noSuchColumn);
        s.holds("NOT_COVERED if the table does not cover the draft.", TableSentences::draftNotCovered);
    }

    private static void draftFor(Sentences s) {
        s.section("Promise 26: draftFor");
        s.holds("Finds the draft at which the table shows a displacement.", TableSentences::draftsOfDisplacements);
        s.holds("- `displacement`: any displacement", TableSentences::anyDisplacement);
        s.holds("Returns the least covered draft for which the interpolated column 0 is at least displacement;",
            TableSentences::leastDraft);
        s.holds("NOT_COVERED if the table is empty", TableSentences::draftForWithoutRows);
        s.holds("or the displacement in the last row is less than displacement.", TableSentences::beyondLastRow);
    }

    private static void rowAdded(Check check) {
        DraftSurvey x = new DraftSurvey();
        for (int row = 0; row < 10; row++) {
            Ships.row(x, 3 * row + "," + row / 2 + "," + 7 * row + ",-" + (9 * row + 1) + "," + 11 * row);
            for (int old = 0; old <= row; old++) {
                String at = " of row " + old + " with " + (row + 1) + " rows";
                check.due("rowDraft" + at, x.rowDraft(old), 3 * old);
            }
            check.due("the row behind the last", x.rowDraft(row + 1), NO_SUCH_ITEM);
            check.due("its displacement", x.tableValue(0, 3 * row), row / 2);
            check.due("its TPC", x.tableValue(1, 3 * row), 7 * row);
            check.due("its LCF", x.tableValue(2, 3 * row), -(9 * row + 1));
            check.due("its MTC", x.tableValue(3, 3 * row), 11 * row);
        }
    }

    private static void bufferEmptied(Check check) {
        DraftSurvey x = Ships.withRows("1,2,3,4,5");
        check.due("errorPosition()", x.errorPosition(), 0);
        check.due("addRow() of nothing", x.addRow(), DraftSurvey.INVALID_ROW);
        check.due("append('2')", x.append('2'), 1);
        check.due("clearBuffer()", x.clearBuffer(), 1);
        check.due("clearBuffer() again", x.clearBuffer(), 0);
        Ships.row(x, "30000,9999999,20000,-100000,200000");
        check.due("clearBuffer() behind the longest row", x.clearBuffer(), 0);
        // a row that is refused stays where it is, and can be finished
        Ships.type(x, "7,8");
        check.due("addRow() of 7,8", x.addRow(), DraftSurvey.INVALID_ROW);
        check.due("append(',')", x.append(','), 4);
    }

    private static void numberOfRows(Check check) {
        DraftSurvey x = new DraftSurvey();
        for (int row = 1; row <= 10; row++) {
            Ships.type(x, row + ",1,1,1,1");
            check.due("addRow() number " + row, x.addRow(), row);
        }
        x.clearTable();
        Ships.type(x, "1,1,1,1,1");
        check.due("addRow() behind a cleared table", x.addRow(), 1);
    }

    private static void incompleteRow(Check check) {
        String row = "101,1000,20,-30,40";
        for (int length = 0; length < row.length() - 1; length++) {
            String part = row.substring(0, length);
            Ships.refused(check, "addRow() of '" + part + "'", () -> Ships.withBuffer(part), DraftSurvey::addRow,
                DraftSurvey.INVALID_ROW);
            Ships.refused(check, "addRow() of '" + part + "' to 10 rows", () -> Ships.withTenRowsAnd(part),
                DraftSurvey::addRow, DraftSurvey.INVALID_ROW);
        }
        check.due("addRow() with one digit of MTC", Ships.withBuffer("101,1000,20,-30,4").addRow(), 1);
        String[] wrong = {"1,2,3,4,5,", "1,2,3,4,5,6", "1,2,3,4,5 ", " 1,2,3,4,5", "1,2,3,4,5x", "1,2,3,4,5-", "1,2,,4,5",
            "1,2,3,-,5", "1,2,3,--4,5", "1,2,3,-0,5", "1,2,3,4,05", "-1,2,3,4,5", "1,2,3,4,-5", "1;2;3;4;5", "1,2,3,4.5",
            "1,2,3,4,+5", ",,,,", "1,2,3,4,5,6,7,8,9,10,11,12,13,14,15,16,"};
        for (String text : wrong) {
            Ships.refused(check, "addRow() of '" + text + "'", () -> Ships.withBuffer(text), DraftSurvey::addRow,
                DraftSurvey.INVALID_ROW);
        }
    }

    private static void fullTable(Check check) {
        String[] rows = {"101,1000,1,1,1", "100,1000,1,1,1", "101,999,1,1,1", "0,0,0,0,0"};
        for (String row : rows) {
            Ships.refused(check, "addRow() of " + row + " to 10 rows", () -> Ships.withTenRowsAnd(row),
                DraftSurvey::addRow, DraftSurvey.FULL);
        }
        DraftSurvey x = Ships.withTenRowsAnd("7,8,9,1,2");
        check.due("addRow() to 10 rows", x.addRow(), DraftSurvey.FULL);
        x.clearTable();
        check.due("addRow() of what is still in the buffer", x.addRow(), 1);
        check.due("rowDraft(0)", x.rowDraft(0), 7);
    }

    private static void follows(Check check, String row, long answer) {
        String first = "400,70,1,1,1";
        String last = "500,100,1,1,1";
        DraftSurvey x = Ships.withRows(first, last);
        Ships.type(x, row);
        check.due("addRow() of " + row, x.addRow(), answer);
        if (answer < 0) {
            Ships.refused(check, "addRow() of " + row, () -> {
                DraftSurvey y = Ships.withRows(first, last);
                Ships.type(y, row);
                return y;
            }, DraftSurvey::addRow, answer);
        }
    }

    private static void draftNotGreater(Check check) {
        follows(check, "501,100,1,1,1", 3);
        follows(check, "500,100,1,1,1", NOT_ASCENDING);
        follows(check, "500,101,1,1,1", NOT_ASCENDING);
        follows(check, "499,101,1,1,1", NOT_ASCENDING);
        follows(check, "450,101,1,1,1", NOT_ASCENDING);
        follows(check, "0,9999999,1,1,1", NOT_ASCENDING);
        follows(check, "30000,100,1,1,1", 3);
        // with no row, or none any more, every row is the first
        String[] firsts = {"0,0,0,0,0", "30000,9999999,0,0,0", "1,0,0,0,0", "0,1,0,0,0"};
        for (String row : firsts) {
            check.due("addRow() of " + row, Ships.withBuffer(row).addRow(), 1);
            DraftSurvey x = Ships.withTenRowsAnd(row);
            x.clearTable();
            check.due("addRow() of " + row + " behind a cleared table", x.addRow(), 1);
        }
    }

    private static void displacementLess(Check check) {
        follows(check, "501,101,1,1,1", 3);
        follows(check, "501,100,0,-1,0", 3);
        follows(check, "501,99,9,9,9", NOT_ASCENDING);
        follows(check, "501,71,9,9,9", NOT_ASCENDING);
        follows(check, "30000,0,1,1,1", NOT_ASCENDING);
        follows(check, "499,99,1,1,1", NOT_ASCENDING);
        // each of ten rows is held to the one before it
        DraftSurvey x = new DraftSurvey();
        for (int row = 1; row <= 10; row++) {
            if (row > 1) {
                Ships.type(x, 10 * row + "," + (10 * row - 11) + ",1,1,1");
                check.due("addRow() below row " + (row - 1), x.addRow(), NOT_ASCENDING);
                x.clearBuffer();
            }
            Ships.type(x, 10 * row + "," + 10 * row + ",1,1,1");
            check.due("addRow() of row " + row, x.addRow(), row);
        }
    }

    private static void rowsRemoved(Check check) {
        int[] counts = {0, 1, 9, 10};
        for (int count : counts) {
            DraftSurvey x = new DraftSurvey();
            for (int row = 0; row < count; row++) {
                Ships.row(x, row + "," + row + ",1,1,1");
            }
            Ships.type(x, "4,5");
            check.due("clearTable()", x.clearTable(), count);
            check.due("rowCount()", x.rowCount(), 0);
            check.due("rowDraft(0)", x.rowDraft(0), NO_SUCH_ITEM);
            check.due("tableValue(0, 0)", x.tableValue(0, 0), NOT_COVERED);
            check.due("draftFor(0)", x.draftFor(0), NOT_COVERED);
            check.due("netWeight(0)", x.netWeight(0), NOT_COVERED);
            check.due("heaviest()", x.heaviest(), NOT_COVERED);
            check.due("digest()", x.digest(), Ships.withBuffer("4,5").digest());
            Ships.type(x, ",6,7,8");
            check.due("addRow()", x.addRow(), 1);
            check.due("rowDraft(0) anew", x.rowDraft(0), 4);
            check.due("rowDraft(1) anew", x.rowDraft(1), NO_SUCH_ITEM);
            check.due("tableValue(0, 5) anew", x.tableValue(0, 5), NOT_COVERED);
        }
        settingsStay(check);
    }

    private static void settingsStay(Check check) {
        DraftSurvey x = Ships.laden();
        x.clearTable();
        check.due("reading(3, 5)", x.reading(3, 5), 6050);
        check.due("setDensity(3, 1000)", x.setDensity(3, 1000), 1030);
        check.due("setDeduction(3, 3, 0)", x.setDeduction(3, 3, 0), 331);
        check.due("setLength(10000)", x.setLength(10000), 200000);
        check.due("setMargin(0)", x.setMargin(0), 5);
        check.due("clearBuffer()", x.clearBuffer(), 3);
    }

    private static void rowsBefore(Check check) {
        DraftSurvey x = new DraftSurvey();
        for (int count = 0; count <= 10; count++) {
            for (int row = 0; row < count; row++) {
                Ships.row(x, row + ",1,1,1,1");
            }
            check.due("clearTable() with " + count + " rows", x.clearTable(), count);
            check.due("clearTable() again", x.clearTable(), 0);
            if (count == 4 || count == 8) {
                x = new DraftSurvey();
            }
        }
    }

    private static void draftsOfRows(Check check) {
        int[] drafts = {0, 1, 2, 10, 500, 501, 9999, 20000, 29999, 30000};
        DraftSurvey x = new DraftSurvey();
        for (int draft : drafts) {
            Ships.row(x, draft + ",1,1,1,1");
        }
        for (int row = 0; row < 10; row++) {
            check.due("rowDraft(" + row + ")", x.rowDraft(row), drafts[row]);
        }
    }

    private static void fromZero(Check check) {
        DraftSurvey x = Ships.withRows("17,1,1,1,1");
        check.due("rowDraft(0)", x.rowDraft(0), 17);
        check.due("rowDraft(1)", x.rowDraft(1), NO_SUCH_ITEM);
        check.due("rowDraft(-1)", x.rowDraft(-1), NO_SUCH_ITEM);
    }

    private static void noSuchRow(Check check) {
        DraftSurvey ten = Ships.withTenRows();
        for (int row = -100; row <= 100; row++) {
            check.due("rowDraft(" + row + ") of ten", ten.rowDraft(row),
                row >= 0 && row <= 9 ? 10 * row + 10 : NO_SUCH_ITEM);
        }
        DraftSurvey x = new DraftSurvey();
        for (int count = 0; count <= 10; count++) {
            int[] rows = {-1, -10, count, count + 1, 10, 11, 50, MIN, MAX};
            for (int row : rows) {
                check.due("rowDraft(" + row + ") with " + count + " rows", x.rowDraft(row), NO_SUCH_ITEM);
            }
            check.due("rowDraft(" + (count - 1) + ")", x.rowDraft(count - 1), count == 0 ? NO_SUCH_ITEM : count);
            if (count < 10) {
                Ships.row(x, count + 1 + ",1,1,1,1");
            }
        }
        Ships.refused(check, "rowDraft(3)", Ships::laden, y -> y.rowDraft(3), NO_SUCH_ITEM);
        // a row of a cleared table is none
        x.clearTable();
        check.due("rowDraft(0) of a cleared table", x.rowDraft(0), NO_SUCH_ITEM);
        check.due("rowDraft(9) of a cleared table", x.rowDraft(9), NO_SUCH_ITEM);
    }

    private static void interpolatedColumns(Check check) {
        DraftSurvey x = Ships.withRows("0,0,1000,-100,50", "10,100,900,0,150", "20,150,1000,-5,0");
        int[][] due = {{0, 0, 1000, -100, 50}, {5, 50, 950, -50, 100}, {9, 90, 910, -10, 140}, {10, 100, 900, 0, 150},
            {11, 105, 910, -1, 135}, {12, 110, 920, -1, 120}, {13, 115, 930, -2, 105}, {19, 145, 990, -5, 15},
            {20, 150, 1000, -5, 0}};
        for (int[] one : due) {
            for (int column = 0; column < 4; column++) {
                check.due("tableValue(" + column + ", " + one[0] + ")", x.tableValue(column, one[0]), one[column + 1]);
            }
        }
    }

    private static void columns(Check check) {
        DraftSurvey x = Ships.withRows("7,1,2,3,4");
        for (int column = 0; column < 4; column++) {
            check.due("tableValue(" + column + ", 7)", x.tableValue(column, 7), column + 1);
        }
        check.due("tableValue(-1, 7)", x.tableValue(-1, 7), NO_SUCH_ITEM);
        check.due("tableValue(4, 7)", x.tableValue(4, 7), NO_SUCH_ITEM);
    }

    private static void anyDraft(Check check) {
        int[] drafts = {MIN, MIN + 1, -30000, -1, 30001, 65536, 65536 + 100, MAX - 1, MAX};
        DraftSurvey x = Ships.withRows("0,1,1,1,1", "30000,2,1,1,1");
        for (int draft : drafts) {
            for (int column = 0; column < 4; column++) {
                check.due("tableValue(" + column + ", " + draft + ")", x.tableValue(column, draft), NOT_COVERED);
            }
        }
        check.due("tableValue(0, 0)", x.tableValue(0, 0), 1);
        check.due("tableValue(0, 30000)", x.tableValue(0, 30000), 2);
    }

    /** The value at every draft, against the description's words taken literally. */
    private static void valueAtDraft(Check check) {
        long[][] rows = {{3, 10, 9, -50, 7}, {4, 10, 0, 50, 7}, {11, 13, 5, -3, 100}, {24, 113, 20000, -100000, 200000},
            {40, 113, 0, 100000, 0}, {41, 5000, 1, 0, 1}, {90, 5001, 0, -1, 3}, {97, 9999999, 7, 7, 7}};
        for (int column = 0; column < 4; column++) {
            DraftSurvey x = new DraftSurvey();
            for (long[] row : rows) {
                Ships.row(x, row[0] + "," + row[1] + "," + row[2] + "," + row[3] + "," + row[4]);
            }
            for (int draft = 0; draft <= 100; draft++) {
                check.due("tableValue(" + column + ", " + draft + ")", x.tableValue(column, draft),
                    literalValue(rows, column, draft));
            }
        }
    }

    private static long literalValue(long[][] rows, int column, int draft) {
        for (int i = rows.length - 1; i >= 0; i--) {
            if (rows[i][0] == draft) {
                return rows[i][column + 1];
            }
            if (rows[i][0] < draft && i + 1 < rows.length) {
                long rise = rows[i + 1][column + 1] - rows[i][column + 1];
                double exact = (double) (rise * (draft - rows[i][0])) / (rows[i + 1][0] - rows[i][0]);
                return rows[i][column + 1] + (long) Math.floor(exact);
            }
            if (rows[i][0] < draft) {
                return NOT_COVERED;
            }
        }
        return NOT_COVERED;
    }

    private static void noSuchColumn(Check check) {
        DraftSurvey one = Ships.withRows("7,1,2,3,4");
        for (int column = -200; column <= 200; column++) {
            check.due("tableValue(" + column + ", 7)", one.tableValue(column, 7),
                column >= 0 && column <= 3 ? column + 1 : NO_SUCH_ITEM);
        }
        int[] columns = {-1, 4, 5, -4, 256, MIN, MAX};
        int[] drafts = {4999, 5000, 5500, 7001, MIN, MAX};
        for (int column : columns) {
            for (int draft : drafts) {
                check.due("tableValue(" + column + ", " + draft + ")", Ships.laden().tableValue(column, draft),
                    NO_SUCH_ITEM);
                check.due("tableValue(" + column + ", " + draft + ") without a table",
                    new DraftSurvey().tableValue(column, draft), NO_SUCH_ITEM);
            }
            Ships.refused(check, "tableValue(" + column + ", 5500)", Ships::laden, x -> x.tableValue(column, 5500),
                NO_SUCH_ITEM);
        }
    }

    private static void draftNotCovered(Check check) {
        int[] drafts = {4999, 7001, 0, -1, 30000, MIN, MAX};
        for (int draft : drafts) {
            for (int column = 0; column < 4; column++) {
                int of = column;
                check.due("tableValue(" + of + ", " + draft + ")", Ships.laden().tableValue(of, draft), NOT_COVERED);
                check.due("tableValue(" + of + ", " + draft + ") without a table",
                    new DraftSurvey().tableValue(of, draft), NOT_COVERED);
            }
            Ships.refused(check, "tableValue(3, " + draft + ")", Ships::laden, x -> x.tableValue(3, draft),
                NOT_COVERED);
        }
        DraftSurvey one = Ships.withRows("500,1,1,1,1");
        check.due("tableValue(0, 499)", one.tableValue(0, 499), NOT_COVERED);
        check.due("tableValue(0, 500)", one.tableValue(0, 500), 1);
        check.due("tableValue(0, 501)", one.tableValue(0, 501), NOT_COVERED);
    }

    private static void draftsOfDisplacements(Check check) {
        DraftSurvey x = Ships.withTenRows();
        for (int row = 1; row <= 10; row++) {
            check.due("draftFor(" + 100 * row + ")", x.draftFor(100 * row), 10 * row);
            check.due("draftFor(" + (100 * row - 1) + ")", x.draftFor(100 * row - 1), 10 * row);
            check.due("draftFor(" + (100 * row - 50) + ")", x.draftFor(100 * row - 50), Math.max(10, 10 * row - 5));
            check.due("draftFor(" + (100 * row + 1) + ")", x.draftFor(100 * row + 1),
                row == 10 ? NOT_COVERED : 10 * row + 1);
        }
    }

    private static void anyDisplacement(Check check) {
        DraftSurvey x = Ships.laden();
        int[] low = {MIN, MIN + 1, -9999999, -1, 0, 1, 99999, 100000};
        for (int displacement : low) {
            check.due("draftFor(" + displacement + ")", x.draftFor(displacement), 5000);
        }
        int[] high = {144001, 9999999, 10000000, MAX - 1, MAX};
        for (int displacement : high) {
            check.due("draftFor(" + displacement + ")", x.draftFor(displacement), NOT_COVERED);
        }
        DraftSurvey zero = Ships.withRows("0,0,0,0,0");
        check.due("draftFor(MIN)", zero.draftFor(MIN), 0);
        check.due("draftFor(0)", zero.draftFor(0), 0);
        check.due("draftFor(1)", zero.draftFor(1), NOT_COVERED);
    }

    private static void leastDraft(Check check) {
        // level at first, in the midst and at last; less and more than 1 a millimetre; rows side by side
        sweep(check, "10,50,0,0,0", "20,50,0,0,0", "33,57,0,0,0", "40,90,0,0,0", "41,90,0,0,0", "44,90,0,0,0",
            "45,99,0,0,0", "58,100,0,0,0", "60,140,0,0,0", "70,140,0,0,0");
        sweep(check, "0,0,0,0,0", "97,60,0,0,0");
        sweep(check, "0,0,0,0,0", "7,100,0,0,0");
        sweep(check, "5,3,0,0,0", "6,120,0,0,0");
        sweep(check, "5,3,0,0,0");
        DraftSurvey x = Ships.withRows("0,0,0,0,0", "30000,9999999,0,0,0");
        int[][] due = {{0, 0}, {1, 1}, {333, 1}, {334, 2}, {666, 2}, {667, 3}, {9999665, 29999}, {9999666, 30000},
            {9999999, 30000}};
        for (int[] one : due) {
            check.due("draftFor(" + one[0] + ")", x.draftFor(one[0]), one[1]);
        }
        DraftSurvey level = Ships.withRows("100,9999999,0,0,0", "30000,9999999,0,0,0");
        check.due("draftFor(9999999) of a level table", level.draftFor(9999999), 100);
        check.due("draftFor(0) of a level table", level.draftFor(0), 100);
    }

    /** Tries all drafts for each displacement from -2 to 150. */
    private static void sweep(Check check, String... rows) {
        long[] values = new long[102];
        DraftSurvey x = Ships.withRows(rows);
        for (int draft = 0; draft < values.length; draft++) {
            values[draft] = x.tableValue(0, draft);
        }
        DraftSurvey y = Ships.withRows(rows);
        for (int displacement = -2; displacement <= 150; displacement++) {
            long due = NOT_COVERED;
            for (int draft = values.length - 1; draft >= 0; draft--) {
                if (values[draft] != NOT_COVERED && values[draft] >= displacement) {
                    due = draft;
                }
            }
            check.due("draftFor(" + displacement + ") of " + rows.length + " rows", y.draftFor(displacement), due);
        }
    }

    private static void draftForWithoutRows(Check check) {
        int[] displacements = {MIN, -1, 0, 1, 9999999, MAX};
        for (int displacement : displacements) {
            Ships.refused(check, "draftFor(" + displacement + ") without a table", DraftSurvey::new,
                x -> x.draftFor(displacement), NOT_COVERED);
        }
        DraftSurvey x = Ships.withTenRows();
        x.clearTable();
        check.due("draftFor(100) of a cleared table", x.draftFor(100), NOT_COVERED);
        check.due("draftFor(0) of a cleared table", x.draftFor(0), NOT_COVERED);
    }

    private static void beyondLastRow(Check check) {
        DraftSurvey x = new DraftSurvey();
        for (int row = 1; row <= 10; row++) {
            Ships.row(x, 10 * row + "," + 100 * row + ",1,1,1");
            check.due("draftFor(" + 100 * row + ")", x.draftFor(100 * row), 10 * row);
            check.due("draftFor(" + (100 * row + 1) + ")", x.draftFor(100 * row + 1), NOT_COVERED);
            check.due("draftFor(MAX)", x.draftFor(MAX), NOT_COVERED);
        }
        int[] displacements = {144001, 10000000, MAX};
        for (int displacement : displacements) {
            Ships.refused(check, "draftFor(" + displacement + ")", Ships::laden, y -> y.draftFor(displacement),
                NOT_COVERED);
        }
    }

    private static void rowCount(Check check) {
        DraftSurvey x = new DraftSurvey();
        for (int row = 0; row < 10; row++) {
            check.due("rowCount() with " + row + " rows", x.rowCount(), row);
            Ships.type(x, row + ",1,1,1");
            check.due("addRow() of four numbers", x.addRow(), DraftSurvey.INVALID_ROW);
            check.due("rowCount() behind it", x.rowCount(), row);
            Ships.type(x, ",1");
            check.due("addRow() of five numbers", x.addRow(), row + 1);
        }
        check.due("rowCount() with 10 rows", x.rowCount(), 10);
        Ships.type(x, "11,1,1,1,1");
        x.addRow();
        check.due("rowCount() behind a refused row", x.rowCount(), 10);
        x.clearTable();
        check.due("rowCount() of a cleared table", x.rowCount(), 0);
    }
}
