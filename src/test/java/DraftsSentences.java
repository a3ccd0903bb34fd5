/** Promises 15 to 18: trim, deflection, heel and quarter mean draft. */
final class DraftsSentences {
    private DraftsSentences() {
    }

    static void all(Sentences s) {
        s.section("Promise 15: trim");
        s.holds("Returns the trim of a survey.", DraftsSentences::trimOfSurveys);
        s.holds("A positive trim is a trim by the stern.", DraftsSentences::trimByTheStern);
        surveyNumber(s, "Returns the trim;", DraftSurvey::trim);
        s.section("Promise 16: deflection");
        s.holds("Returns the deflection of the hull: M - floorDiv(F + A, 2).", DraftsSentences::deflection);
        s.holds("A positive deflection is sagging.", DraftsSentences::sagging);
        surveyNumber(s, "Returns the deflection;", DraftSurvey::deflection);
        s.section("Promise 17: heel");
        s.holds("Returns the difference of the midship readings, starboard minus port.", DraftsSentences::heel);
        surveyNumber(s, "Returns the difference;", DraftSurvey::heel);
        s.section("Promise 18: quarterMean");
        s.holds("Returns the quarter mean draft of a survey.", DraftsSentences::quarterMeans);
        surveyNumber(s, "Returns the quarter mean draft;", DraftSurvey::quarterMean);
    }

    interface OfSurvey {
        long answer(DraftSurvey x, int survey);
    }

    /** What the last lines of the four promises have in common. */
    private static void surveyNumber(Sentences s, String returns, OfSurvey method) {
        s.holds("- `survey`: survey number", check -> {
            for (int survey = 0; survey < 4; survey++) {
                check.due("the answer for " + survey, method.answer(new DraftSurvey(), survey), 0);
            }
            check.due("the answer for -1", method.answer(new DraftSurvey(), -1), DraftSurvey.NO_SUCH_SURVEY);
            check.due("the answer for 4", method.answer(new DraftSurvey(), 4), DraftSurvey.NO_SUCH_SURVEY);
        });
        s.onlyNames(returns);
        s.holds("NO_SUCH_SURVEY.", check -> {
            for (int survey : Ships.NO_SURVEYS) {
                Ships.refused(check, "the answer for " + survey, Ships::laden, x -> method.answer(x, survey),
                    DraftSurvey.NO_SUCH_SURVEY);
            }
        });
    }

    /** Each survey has its own drafts. */
    private static DraftSurvey withFourSurveys() {
        DraftSurvey x = new DraftSurvey();
        Ships.readings(x, 0, 10, 20, 30, 41, 50, 61);
        Ships.readings(x, 1, 9000, 9001, 8500, 8400, 7000, 7003);
        Ships.readings(x, 2, 30000, 30000, 0, 30000, 0, 0);
        Ships.readings(x, 3, 0, 0, 30000, 0, 30000, 30000);
        return x;
    }

    private static void answers(Check check, OfSurvey method, long... due) {
        DraftSurvey x = withFourSurveys();
        long before = x.digest();
        for (int survey = 0; survey < 4; survey++) {
            check.due("the answer for " + survey, method.answer(x, survey), due[survey]);
            check.due("the answer again for " + survey, method.answer(x, survey), due[survey]);
        }
        check.due("digest() behind it", x.digest(), before);
    }

    private static void trimOfSurveys(Check check) {
        answers(check, DraftSurvey::trim, 40, -1999, -30000, 30000);
    }

    private static void trimByTheStern(Check check) {
        DraftSurvey x = new DraftSurvey();
        int[][] due = {{100, 101, 1}, {101, 100, -1}, {100, 100, 0}, {0, 30000, 30000}, {30000, 0, -30000}};
        for (int[] one : due) {
            Ships.drafts(x, 3, one[0], 5, one[1]);
            check.due("trim(3) of " + one[0] + " and " + one[1], x.trim(3), one[2]);
        }
        // one millimetre at one mark is too little for a trim, or just enough
        Ships.readings(x, 0, 100, 100, 0, 0, 100, 101);
        check.due("trim(0) of an odd aft sum", x.trim(0), 0);
        Ships.readings(x, 0, 100, 99, 0, 0, 100, 100);
        check.due("trim(0) of an odd forward sum", x.trim(0), 1);
    }

    private static void deflection(Check check) {
        answers(check, DraftSurvey::deflection, 0, 450, 0, 0);
        DraftSurvey x = new DraftSurvey();
        // the half of F + A is rounded down before it is subtracted
        int[][] due = {{0, 0, 1, 0}, {0, 0, 2, -1}, {0, 0, 3, -1}, {1, 1, 1, 0}, {1, 1, 2, 0}, {1, 5, 2, 4},
            {30000, 0, 30000, -30000}, {0, 30000, 0, 30000}, {30000, 30000, 29999, 1}, {29999, 0, 30000, -29999}};
        for (int[] one : due) {
            Ships.drafts(x, 1, one[0], one[1], one[2]);
            check.due("deflection(1) of " + one[0] + ", " + one[1] + ", " + one[2], x.deflection(1), one[3]);
        }
    }

    private static void sagging(Check check) {
        DraftSurvey x = new DraftSurvey();
        Ships.drafts(x, 0, 5000, 5001, 5000);
        check.due("deflection(0) of a hull that sags", x.deflection(0), 1);
        Ships.drafts(x, 0, 5000, 4999, 5000);
        check.due("deflection(0) of a hull that hogs", x.deflection(0), -1);
        Ships.drafts(x, 0, 5000, 5000, 5000);
        check.due("deflection(0) of a straight hull", x.deflection(0), 0);
        Ships.drafts(x, 0, 4000, 5000, 6000);
        check.due("deflection(0) of a straight hull with a trim", x.deflection(0), 0);
    }

    private static void heel(Check check) {
        answers(check, DraftSurvey::heel, 11, -100, 30000, -30000);
        DraftSurvey x = new DraftSurvey();
        int[][] due = {{0, 0, 0}, {0, 1, 1}, {1, 0, -1}, {7000, 7000, 0}, {0, 30000, 30000}, {30000, 0, -30000}};
        for (int[] one : due) {
            // the heel at the ends does not count
            Ships.readings(x, 2, 1, 500, one[0], one[1], 900, 30000);
            check.due("heel(2) of " + one[0] + " and " + one[1], x.heel(2), one[2]);
        }
    }

    private static void quarterMeans(Check check) {
        // (15 + 6 * 35 + 55) / 8, (9000 + 6 * 8450 + 7001) / 8, (30000 + 6 * 15000 + 0) / 8
        answers(check, DraftSurvey::quarterMean, 35, 8337, 15000, 15000);
        DraftSurvey x = new DraftSurvey();
        for (int aft = 0; aft <= 24; aft++) {
            Ships.drafts(x, 0, 3, 5, aft);
            check.due("quarterMean(0) of 3, 5, " + aft, x.quarterMean(0), (33 + aft) / 8);
        }
        x = new DraftSurvey();
        Ships.level(x, 0, 30000);
        check.due("quarterMean(0) of the greatest readings", x.quarterMean(0), 30000);
        x.setReading(0, 2, 29999);
        check.due("quarterMean(0) of one reading less", x.quarterMean(0), 29999);
    }
}
