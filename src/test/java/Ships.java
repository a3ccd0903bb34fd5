import java.util.ArrayList;
import java.util.List;
import java.util.function.Supplier;
import java.util.function.ToLongFunction;

/** Objects to begin a test with, and what a refused call must leave as it was. */
final class Ships {
    static final int MIN = Integer.MIN_VALUE;
    static final int MAX = Integer.MAX_VALUE;
    static final int[] NO_SURVEYS = {-1, 4, MIN, MAX};

    private Ships() {
    }

    static void type(DraftSurvey x, String text) {
        for (char ch : text.toCharArray()) {
            if (x.append(ch) < 0) {
                throw new IllegalStateException("'" + ch + "' of '" + text + "' is refused");
            }
        }
    }

    static void row(DraftSurvey x, String text) {
        type(x, text);
        if (x.addRow() < 0) {
            throw new IllegalStateException("the row " + text + " is refused");
        }
    }

    static DraftSurvey withRows(String... rows) {
        DraftSurvey x = new DraftSurvey();
        for (String row : rows) {
            row(x, row);
        }
        return x;
    }

    static DraftSurvey withBuffer(String text) {
        DraftSurvey x = new DraftSurvey();
        type(x, text);
        return x;
    }

    static void readings(DraftSurvey x, int survey, int... drafts) {
        for (int mark = 0; mark < drafts.length; mark++) {
            x.setReading(survey, mark, drafts[mark]);
        }
    }

    static void drafts(DraftSurvey x, int survey, int forward, int midship, int aft) {
        readings(x, survey, forward, forward, midship, midship, aft, aft);
    }

    static void level(DraftSurvey x, int survey, int draft) {
        drafts(x, survey, draft, draft, draft);
    }

    /** Gives a survey just this quarter mean draft and this trim. */
    static void floating(DraftSurvey x, int survey, int quarterMean, int trim) {
        int forward = Math.max(Math.max(0, -trim), Math.min(30000 - Math.max(0, trim), quarterMean - trim / 2));
        int missing = 8 * quarterMean - forward - (forward + trim);
        drafts(x, survey, forward, -Math.floorDiv(-missing, 6), forward + trim);
        if (x.quarterMean(survey) != quarterMean || x.trim(survey) != trim) {
            throw new IllegalStateException("no survey floats at " + quarterMean + " with the trim " + trim);
        }
    }

    /** All four surveys can be computed, with all shifts of a digest, and all that can be set is set. */
    static DraftSurvey laden() {
        DraftSurvey x = withRows("5000,100000,2000,-1000,5000", "6000,121000,2200,1000,6000",
            "7000,144000,2400,2000,8000");
        readings(x, 0, 5400, 5401, 5900, 5910, 6600, 6606);
        readings(x, 1, 6501, 6500, 6400, 6410, 6440, 6460);
        readings(x, 2, 5601, 5602, 5603, 5604, 5605, 5606);
        readings(x, 3, 6000, 6010, 6020, 6030, 6040, 6050);
        for (int survey = 0; survey < 4; survey++) {
            x.setDensity(survey, 1000 + 10 * survey);
            for (int kind = 0; kind < 4; kind++) {
                x.setDeduction(survey, kind, 100 * survey + 10 * kind + 1);
            }
        }
        x.setLength(200000);
        x.setMargin(5);
        type(x, "7,x");
        return x;
    }

    /** All that can be set is at one of its ends, the table and the buffer are full. */
    static DraftSurvey atItsEnds() {
        DraftSurvey x = new DraftSurvey();
        for (int row = 0; row < 10; row++) {
            row(x, (row == 9 ? 30000 : row) + "," + (row == 9 ? 9999999 : row) + ",20000,-9,0");
        }
        readings(x, 0, 0, 0, 0, 0, 0, 0);
        readings(x, 1, 30000, 30000, 30000, 30000, 30000, 30000);
        readings(x, 2, 30000, 0, 30000, 0, 30000, 0);
        readings(x, 3, 0, 30000, 0, 30000, 0, 30000);
        for (int survey = 0; survey < 4; survey++) {
            x.setDensity(survey, survey % 2 == 0 ? 950 : 1050);
            for (int kind = 0; kind < 4; kind++) {
                x.setDeduction(survey, kind, survey < 2 ? 9999999 : 0);
            }
        }
        x.setLength(400000);
        x.setMargin(100);
        type(x, "~~~~~~~~~~~~~~~~~~~~                    ");
        return x;
    }

    /** Drafts 10 to 100, displacements 100 to 1000. */
    static DraftSurvey withTenRows() {
        DraftSurvey x = new DraftSurvey();
        for (int row = 1; row <= 10; row++) {
            row(x, 10 * row + "," + 100 * row + "," + row + ",-" + row + "," + 2 * row);
        }
        return x;
    }

    static DraftSurvey withTenRowsAnd(String buffer) {
        DraftSurvey x = withTenRows();
        type(x, buffer);
        return x;
    }

    static DraftSurvey withFullBuffer() {
        return withBuffer("1234567890123456789012345678901234567890");
    }

    /** All that can be asked of an object. The asking changes it, so it is done last. */
    static List<Long> everything(DraftSurvey x) {
        List<Long> all = new ArrayList<>(List.of(x.digest(), x.errorPosition(), x.rowCount(), x.heaviest(),
            x.cargo(2, 3), x.cargoLow(2, 3), x.cargoHigh(2, 3), x.draftFor(101), x.draftFor(120000)));
        for (int row = 0; row <= 10; row++) {
            long draft = x.rowDraft(row);
            all.add(draft);
            for (int column = 0; draft >= 0 && column < 4; column++) {
                all.add(x.tableValue(column, (int) draft));
            }
        }
        all.add(x.setLength(10000));
        all.add(x.setMargin(1));
        for (int survey = 0; survey < 4; survey++) {
            all.add(x.setDensity(survey, 1050));
            for (int mark = 0; mark < 6; mark++) {
                all.add(x.setReading(survey, mark, 5000 + mark));
            }
            for (int kind = 0; kind < 4; kind++) {
                all.add(x.setDeduction(survey, kind, kind));
            }
        }
        all.addAll(List.of(x.digest(), x.append('1'), x.digest(), x.clearBuffer()));
        type(x, "30000,9999999,1,1,1");
        all.addAll(List.of(x.addRow(), x.digest(), x.clearTable(), x.digest()));
        return all;
    }

    /** A refused call answers the code and changes nothing, be it made once or twice. */
    static void refused(Check check, String call, Supplier<DraftSurvey> ship, ToLongFunction<DraftSurvey> calling,
            long code) {
        DraftSurvey x = ship.get();
        long before = x.digest();
        check.due(call, calling.applyAsLong(x), code);
        check.due("digest() behind " + call, x.digest(), before);
        check.due(call + " again", calling.applyAsLong(x), code);
        check.dueText("all that can be asked behind " + call, everything(x).toString(),
            everything(ship.get()).toString());
    }
}
