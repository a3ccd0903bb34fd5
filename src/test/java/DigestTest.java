/** Promise 29: the digest, as fixed numbers, as the hash of what the methods answer, and as a trace of each change. */
public final class DigestTest {
    private static final Check CHECK = new Check("DigestTest");

    public static void main(String[] args) {
        fixedNumbers();
        hashOfAnswers();
        changesNothing();
        eachPartCounts();
        CHECK.end();
    }

    private static void fixedNumbers() {
        // Both numbers were found by a program in another language.
        CHECK.due("digest() of a new object", new DraftSurvey().digest(), -8560766162309147841L);
        CHECK.due("digest() of a full object", full().digest(), -3041426116085442895L);
    }

    private static DraftSurvey full() {
        DraftSurvey x = new DraftSurvey();
        CHECK.row(x, "5000,100000,2000,-1000,5000");
        CHECK.row(x, "6000,121000,2200,1000,6000");
        CHECK.row(x, "7000,144000,2400,2000,8000");
        CHECK.drafts(x, 0, 5400, 5900, 6600);
        CHECK.drafts(x, 1, 6500, 6700, 6710);
        CHECK.drafts(x, 2, 5000, 5000, 5000);
        x.setDensity(0, 1000);
        x.setDensity(1, 1010);
        x.setDeduction(0, 0, 1);
        x.setDeduction(0, 1, 20);
        x.setDeduction(0, 2, 300);
        x.setDeduction(0, 3, 4000);
        x.setDeduction(1, 0, 12345);
        x.setLength(200000);
        x.setMargin(5);
        CHECK.type(x, "7,x~ ");
        return x;
    }

    private static void hashOfAnswers() {
        DraftSurvey x = full();
        CHECK.due("digest()", x.digest(), hash(x, 3, 200000, 5, "7,x~ "));
        x.clearBuffer();
        x.clearTable();
        CHECK.due("digest() of a cleared object", x.digest(), hash(x, 0, 200000, 5, ""));
    }

    private static long hash(DraftSurvey x, int rows, int length, int margin, String buffer) {
        long hash = 31 * 1759L + x.rowCount();
        for (int row = 0; row < rows; row++) {
            long draft = x.rowDraft(row);
            hash = 31 * hash + draft;
            for (int column = 0; column < 4; column++) {
                hash = 31 * hash + x.tableValue(column, (int) draft);
            }
        }
        for (int survey = 0; survey < 4; survey++) {
            long[] values = {x.reading(survey, 0), x.reading(survey, 1), x.reading(survey, 2), x.reading(survey, 3),
                x.reading(survey, 4), x.reading(survey, 5), x.trim(survey), x.deflection(survey), x.heel(survey),
                x.quarterMean(survey), x.firstCorrection(survey), x.secondCorrection(survey),
                x.displacement(survey, -500), x.displacement(survey, 0), x.displacement(survey, 500),
                x.netWeight(survey)};
            for (long value : values) {
                hash = 31 * hash + value;
            }
        }
        long[] last = {x.cargo(0, 1), x.cargoLow(0, 1), x.cargoHigh(0, 1), x.heaviest(), length, margin,
            buffer.length()};
        for (long value : last) {
            hash = 31 * hash + value;
        }
        for (int i = 0; i < buffer.length(); i++) {
            hash = 31 * hash + buffer.charAt(i);
        }
        return hash;
    }

    private static void changesNothing() {
        DraftSurvey x = full();
        long before = x.digest();
        CHECK.due("digest() again", x.digest(), before);
        // refused calls and calls that only ask leave the state as it is
        x.append(31);
        x.errorPosition();
        x.addRow();
        x.setLength(9999);
        x.setMargin(101);
        x.setReading(0, 0, 30001);
        x.setReading(0, 6, 1);
        x.setReading(4, 0, 1);
        x.setDensity(0, 949);
        x.setDensity(4, 1000);
        x.setDeduction(0, 4, 1);
        x.setDeduction(0, 0, -1);
        x.setDeduction(4, 0, 1);
        x.rowDraft(3);
        x.tableValue(0, 5500);
        x.displacement(0, 500);
        x.displacement(0, 1001);
        x.draftFor(120000);
        x.heaviest();
        x.rowCount();
        CHECK.due("digest() after refused calls", x.digest(), before);
    }

    private static void eachPartCounts() {
        DraftSurvey x = full();
        long before = x.digest();
        String part = "";
        for (int change = 0; change < 6; change++) {
            switch (change) {
                case 0: x.setLength(200001); part = "length"; break;
                case 1: x.setMargin(6); part = "margin"; break;
                case 2: x.append(32); part = "buffer"; break;
                case 3: x.setReading(3, 5, 1); part = "reading"; break;
                case 4: x.setDeduction(2, 3, 1); part = "deduction"; break;
                default: x.clearTable(); part = "table"; break;
            }
            long after = x.digest();
            CHECK.due("digest() differs after a change of the " + part, after == before ? 1 : 0, 0);
            before = after;
        }
    }
}
