/** The four examples of the document's description. */
public final class ExamplesTest {
    private static final Check CHECK = new Check("ExamplesTest");

    public static void main(String[] args) {
        oneRow();
        draftsWithoutTable();
        draftTooGreat();
        minusBeforeZero();
        CHECK.end();
    }

    private static void oneRow() {
        DraftSurvey x = new DraftSurvey();
        CHECK.due("append(53)", x.append(53), 1);
        CHECK.due("append(44)", x.append(44), 2);
        CHECK.due("append(57)", x.append(57), 3);
        CHECK.due("append(44)", x.append(44), 4);
        CHECK.due("append(49)", x.append(49), 5);
        CHECK.due("append(44)", x.append(44), 6);
        CHECK.due("append(48)", x.append(48), 7);
        CHECK.due("append(44)", x.append(44), 8);
        CHECK.due("append(48)", x.append(48), 9);
        CHECK.due("addRow()", x.addRow(), 1);
        CHECK.due("tableValue(0, 5)", x.tableValue(0, 5), 9);
        CHECK.due("tableValue(0, 6)", x.tableValue(0, 6), -9000000000000000007L);
        CHECK.due("draftFor(9)", x.draftFor(9), 5);
        CHECK.due("draftFor(10)", x.draftFor(10), -9000000000000000007L);
        CHECK.due("tableValue(4, 5)", x.tableValue(4, 5), -9000000000000000002L);
    }

    private static void draftsWithoutTable() {
        DraftSurvey x = new DraftSurvey();
        CHECK.due("setReading(0, 0, 8200)", x.setReading(0, 0, 8200), 0);
        CHECK.due("setReading(0, 1, 8211)", x.setReading(0, 1, 8211), 0);
        CHECK.due("setReading(0, 2, 8400)", x.setReading(0, 2, 8400), 0);
        CHECK.due("setReading(0, 3, 8430)", x.setReading(0, 3, 8430), 0);
        CHECK.due("setReading(0, 4, 8700)", x.setReading(0, 4, 8700), 0);
        CHECK.due("setReading(0, 5, 8690)", x.setReading(0, 5, 8690), 0);
        CHECK.due("quarterMean(0)", x.quarterMean(0), 8423);
        CHECK.due("trim(0)", x.trim(0), 490);
        CHECK.due("deflection(0)", x.deflection(0), -35);
        CHECK.due("heel(0)", x.heel(0), 30);
        CHECK.due("netWeight(0)", x.netWeight(0), -9000000000000000007L);
        CHECK.due("setReading(4, 9, -1)", x.setReading(4, 9, -1), -9000000000000000001L);
    }

    private static void draftTooGreat() {
        DraftSurvey x = new DraftSurvey();
        CHECK.due("append(51)", x.append(51), 1);
        CHECK.due("append(48)", x.append(48), 2);
        CHECK.due("append(48)", x.append(48), 3);
        CHECK.due("append(48)", x.append(48), 4);
        CHECK.due("append(49)", x.append(49), 5);
        CHECK.due("errorPosition()", x.errorPosition(), 4);
        CHECK.due("addRow()", x.addRow(), -9000000000000000004L);
        CHECK.due("clearBuffer()", x.clearBuffer(), 5);
    }

    private static void minusBeforeZero() {
        DraftSurvey x = new DraftSurvey();
        CHECK.due("append(49)", x.append(49), 1);
        CHECK.due("append(44)", x.append(44), 2);
        CHECK.due("append(50)", x.append(50), 3);
        CHECK.due("append(44)", x.append(44), 4);
        CHECK.due("append(51)", x.append(51), 5);
        CHECK.due("append(44)", x.append(44), 6);
        CHECK.due("append(45)", x.append(45), 7);
        CHECK.due("append(48)", x.append(48), 8);
        CHECK.due("errorPosition()", x.errorPosition(), 7);
        CHECK.due("clearBuffer()", x.clearBuffer(), 8);
        CHECK.due("cargo(0, 4)", x.cargo(0, 4), -9000000000000000001L);
        CHECK.due("cargo(0, 0)", x.cargo(0, 0), -9000000000000000007L);
    }
}
