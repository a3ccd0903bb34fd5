/** Promises 15 to 18: trim, deflection, heel and quarter mean draft. */
public final class DraftsTest {
    private static final Check CHECK = new Check("DraftsTest");

    public static void main(String[] args) {
        zero();
        roundedDrafts();
        trimByTheHead();
        extremes();
        eachSurveyItsOwn();
        noSuchSurvey();
        CHECK.end();
    }

    private static void readings(DraftSurvey x, int survey, int... drafts) {
        for (int mark = 0; mark < 6; mark++) {
            x.setReading(survey, mark, drafts[mark]);
        }
    }

    private static void figures(DraftSurvey x, int survey, long trim, long deflection, long heel, long quarterMean) {
        CHECK.due("trim(" + survey + ")", x.trim(survey), trim);
        CHECK.due("deflection(" + survey + ")", x.deflection(survey), deflection);
        CHECK.due("heel(" + survey + ")", x.heel(survey), heel);
        CHECK.due("quarterMean(" + survey + ")", x.quarterMean(survey), quarterMean);
    }

    private static void zero() {
        DraftSurvey x = new DraftSurvey();
        for (int survey = 0; survey < 4; survey++) {
            figures(x, survey, 0, 0, 0, 0);
        }
    }

    private static void roundedDrafts() {
        DraftSurvey x = new DraftSurvey();
        // F = 3 (from 3.5), M = 5 (from 5.5), A = 8 (from 8.5); (F + A) / 2 = 5.5; Q from 41 / 8
        readings(x, 0, 3, 4, 5, 6, 8, 9);
        figures(x, 0, 5, 0, 1, 5);
        // each single reading has its place
        readings(x, 1, 10, 0, 0, 0, 0, 0);
        figures(x, 1, -5, -2, 0, 0);
        readings(x, 1, 0, 10, 0, 0, 0, 0);
        figures(x, 1, -5, -2, 0, 0);
        readings(x, 1, 0, 0, 10, 0, 0, 0);
        figures(x, 1, 0, 5, -10, 3);
        readings(x, 1, 0, 0, 0, 10, 0, 0);
        figures(x, 1, 0, 5, 10, 3);
        readings(x, 1, 0, 0, 0, 0, 18, 0);
        figures(x, 1, 9, -4, 0, 1);
        readings(x, 1, 0, 0, 0, 0, 0, 18);
        figures(x, 1, 9, -4, 0, 1);
    }

    private static void trimByTheHead() {
        DraftSurvey x = new DraftSurvey();
        readings(x, 2, 9001, 9000, 8000, 7990, 7001, 7001);
        // F = 9000, M = 7995, A = 7001
        figures(x, 2, -1999, -5, -10, 7996);
    }

    private static void extremes() {
        DraftSurvey x = new DraftSurvey();
        readings(x, 3, 0, 0, 30000, 30000, 0, 0);
        figures(x, 3, 0, 30000, 0, 22500);
        readings(x, 3, 30000, 30000, 0, 0, 30000, 30000);
        figures(x, 3, 0, -30000, 0, 7500);
        readings(x, 3, 30000, 30000, 0, 30000, 0, 0);
        figures(x, 3, -30000, 0, 30000, 15000);
        readings(x, 3, 30000, 30000, 30000, 30000, 30000, 30000);
        figures(x, 3, 0, 0, 0, 30000);
    }

    private static void eachSurveyItsOwn() {
        DraftSurvey x = new DraftSurvey();
        for (int survey = 0; survey < 4; survey++) {
            readings(x, survey, 100, 100, 200 * survey, 200 * survey + 2, 300 * survey, 300 * survey);
        }
        for (int survey = 0; survey < 4; survey++) {
            int midship = 200 * survey + 1;
            int aft = 300 * survey;
            figures(x, survey, aft - 100, midship - (100 + aft) / 2, 2, (100 + 6 * midship + aft) / 8);
        }
    }

    private static void noSuchSurvey() {
        DraftSurvey x = new DraftSurvey();
        int[] missing = {-1, 4, 5, Integer.MIN_VALUE, Integer.MAX_VALUE};
        for (int survey : missing) {
            figures(x, survey, DraftSurvey.NO_SUCH_SURVEY, DraftSurvey.NO_SUCH_SURVEY, DraftSurvey.NO_SUCH_SURVEY,
                DraftSurvey.NO_SUCH_SURVEY);
        }
    }
}
