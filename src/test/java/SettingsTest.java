/** Promises 9 to 14: the length, the margin, the readings, the densities and the deductions. */
public final class SettingsTest {
    private static final Check CHECK = new Check("SettingsTest");
    private static final int MIN = Integer.MIN_VALUE;
    private static final int MAX = Integer.MAX_VALUE;
    private static final int[] NO_SURVEYS = {-1, 4, 5, MIN, MAX};

    public static void main(String[] args) {
        setLength();
        setMargin();
        setReading();
        readingErrors();
        setDensity();
        setDeduction();
        CHECK.end();
    }

    private static void setLength() {
        DraftSurvey x = new DraftSurvey();
        CHECK.due("setLength(10000)", x.setLength(10000), 180000);
        CHECK.due("setLength(400000)", x.setLength(400000), 10000);
        int[] refused = {9999, 400001, 0, -10000, MIN, MAX};
        for (int length : refused) {
            CHECK.due("setLength(" + length + ")", x.setLength(length), DraftSurvey.OUT_OF_RANGE);
        }
        CHECK.due("setLength(200000)", x.setLength(200000), 400000);
        CHECK.due("setLength(200000) again", x.setLength(200000), 200000);
    }

    private static void setMargin() {
        DraftSurvey x = new DraftSurvey();
        CHECK.due("setMargin(100)", x.setMargin(100), 0);
        int[] refused = {101, -1, MIN, MAX};
        for (int margin : refused) {
            CHECK.due("setMargin(" + margin + ")", x.setMargin(margin), DraftSurvey.OUT_OF_RANGE);
        }
        CHECK.due("setMargin(0)", x.setMargin(0), 100);
        CHECK.due("setMargin(5)", x.setMargin(5), 0);
        CHECK.due("setMargin(6)", x.setMargin(6), 5);
    }

    private static void setReading() {
        DraftSurvey x = new DraftSurvey();
        for (int survey = 0; survey < 4; survey++) {
            for (int mark = 0; mark < 6; mark++) {
                int draft = 1000 * survey + 10 * mark + 1;
                CHECK.due("setReading(" + survey + ", " + mark + ")", x.setReading(survey, mark, draft), 0);
            }
        }
        for (int survey = 0; survey < 4; survey++) {
            for (int mark = 0; mark < 6; mark++) {
                int draft = 1000 * survey + 10 * mark + 1;
                String at = "(" + survey + ", " + mark + ")";
                CHECK.due("reading" + at, x.reading(survey, mark), draft);
                CHECK.due("setReading to 30000" + at, x.setReading(survey, mark, 30000), draft);
                CHECK.due("setReading to 30001" + at, x.setReading(survey, mark, 30001), DraftSurvey.OUT_OF_RANGE);
                CHECK.due("setReading to 0" + at, x.setReading(survey, mark, 0), 30000);
                CHECK.due("setReading to -1" + at, x.setReading(survey, mark, -1), DraftSurvey.OUT_OF_RANGE);
                CHECK.due("setReading back" + at, x.setReading(survey, mark, draft), 0);
            }
        }
        CHECK.due("setReading to MAX", x.setReading(0, 0, MAX), DraftSurvey.OUT_OF_RANGE);
        CHECK.due("setReading to MIN", x.setReading(0, 0, MIN), DraftSurvey.OUT_OF_RANGE);
    }

    private static void readingErrors() {
        DraftSurvey x = new DraftSurvey();
        int[] noMarks = {-1, 6, 7, MIN, MAX};
        for (int survey : NO_SURVEYS) {
            CHECK.due("reading(" + survey + ", 0)", x.reading(survey, 0), DraftSurvey.NO_SUCH_SURVEY);
            CHECK.due("reading(" + survey + ", 6)", x.reading(survey, 6), DraftSurvey.NO_SUCH_SURVEY);
            CHECK.due("setReading(" + survey + ", 0, 0)", x.setReading(survey, 0, 0), DraftSurvey.NO_SUCH_SURVEY);
            CHECK.due("setReading(" + survey + ", 9, -1)", x.setReading(survey, 9, -1), DraftSurvey.NO_SUCH_SURVEY);
            CHECK.due("setReading(" + survey + ", 0, -1)", x.setReading(survey, 0, -1), DraftSurvey.NO_SUCH_SURVEY);
        }
        for (int mark : noMarks) {
            CHECK.due("reading(3, " + mark + ")", x.reading(3, mark), DraftSurvey.NO_SUCH_ITEM);
            CHECK.due("setReading(3, " + mark + ", 0)", x.setReading(3, mark, 0), DraftSurvey.NO_SUCH_ITEM);
            CHECK.due("setReading(3, " + mark + ", 30001)", x.setReading(3, mark, 30001), DraftSurvey.NO_SUCH_ITEM);
        }
    }

    private static void setDensity() {
        DraftSurvey x = new DraftSurvey();
        for (int survey = 0; survey < 4; survey++) {
            CHECK.due("setDensity(" + survey + ", 950)", x.setDensity(survey, 950), 1025);
            CHECK.due("setDensity(" + survey + ", 1050)", x.setDensity(survey, 1050), 950);
            int[] refused = {949, 1051, 0, -1000, MIN, MAX};
            for (int density : refused) {
                CHECK.due("setDensity(" + survey + ", " + density + ")", x.setDensity(survey, density),
                    DraftSurvey.OUT_OF_RANGE);
            }
            CHECK.due("setDensity(" + survey + ", back)", x.setDensity(survey, 1000 + survey), 1050);
        }
        for (int survey = 0; survey < 4; survey++) {
            CHECK.due("setDensity(" + survey + ", 1025)", x.setDensity(survey, 1025), 1000 + survey);
        }
        for (int survey : NO_SURVEYS) {
            CHECK.due("setDensity(" + survey + ", 1000)", x.setDensity(survey, 1000), DraftSurvey.NO_SUCH_SURVEY);
            CHECK.due("setDensity(" + survey + ", 0)", x.setDensity(survey, 0), DraftSurvey.NO_SUCH_SURVEY);
        }
    }

    private static void setDeduction() {
        DraftSurvey x = new DraftSurvey();
        for (int survey = 0; survey < 4; survey++) {
            for (int kind = 0; kind < 4; kind++) {
                String at = "(" + survey + ", " + kind + ")";
                CHECK.due("setDeduction to 9999999" + at, x.setDeduction(survey, kind, 9999999), 0);
                CHECK.due("setDeduction to 10000000" + at, x.setDeduction(survey, kind, 10000000),
                    DraftSurvey.OUT_OF_RANGE);
                CHECK.due("setDeduction to 0" + at, x.setDeduction(survey, kind, 0), 9999999);
                CHECK.due("setDeduction to -1" + at, x.setDeduction(survey, kind, -1), DraftSurvey.OUT_OF_RANGE);
                CHECK.due("setDeduction to its own" + at, x.setDeduction(survey, kind, 10 * survey + kind), 0);
            }
        }
        int[] noKinds = {-1, 4, 5, MIN, MAX};
        for (int kind : noKinds) {
            CHECK.due("setDeduction(3, " + kind + ", 0)", x.setDeduction(3, kind, 0), DraftSurvey.NO_SUCH_ITEM);
            CHECK.due("setDeduction(3, " + kind + ", -1)", x.setDeduction(3, kind, -1), DraftSurvey.NO_SUCH_ITEM);
        }
        for (int survey : NO_SURVEYS) {
            CHECK.due("setDeduction(" + survey + ", 0, 0)", x.setDeduction(survey, 0, 0), DraftSurvey.NO_SUCH_SURVEY);
            CHECK.due("setDeduction(" + survey + ", 4, -1)", x.setDeduction(survey, 4, -1), DraftSurvey.NO_SUCH_SURVEY);
        }
        for (int survey = 0; survey < 4; survey++) {
            for (int kind = 0; kind < 4; kind++) {
                CHECK.due("setDeduction back", x.setDeduction(survey, kind, 0), 10 * survey + kind);
            }
        }
        CHECK.due("setDeduction to MAX", x.setDeduction(0, 0, MAX), DraftSurvey.OUT_OF_RANGE);
        CHECK.due("setDeduction to MIN", x.setDeduction(0, 0, MIN), DraftSurvey.OUT_OF_RANGE);
    }
}
