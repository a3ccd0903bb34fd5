/** Promises 19 to 25 and 27: corrections, displacement, net weight, cargo and the heaviest survey. */
final class WeightsSentences {
    private static final long NOT_COVERED = DraftSurvey.NOT_COVERED;
    private static final long NO_SUCH_SURVEY = DraftSurvey.NO_SUCH_SURVEY;
    private static final long OUT_OF_RANGE = DraftSurvey.OUT_OF_RANGE;
    private static final int MIN = Ships.MIN;
    private static final int MAX = Ships.MAX;

    private WeightsSentences() {
    }

    interface OfSurvey {
        long answer(DraftSurvey x, int survey);
    }

    interface OfTwo {
        long answer(DraftSurvey x, int first, int second);
    }

    static void all(Sentences s) {
        s.section("Promise 19: firstCorrection");
        s.holds("Returns the first trim correction of a survey.", WeightsSentences::firstCorrections);
        ofOneSurvey(s, "Returns the correction;", DraftSurvey::firstCorrection);
        s.section("Promise 20: secondCorrection");
        s.holds("Returns the second trim correction of a survey.", WeightsSentences::secondCorrections);
        ofOneSurvey(s, "Returns the correction;", DraftSurvey::secondCorrection);
        displacement(s);
        s.section("Promise 22: netWeight");
        s.holds("Returns the net weight of a survey.", WeightsSentences::netWeights);
        ofOneSurvey(s, "Returns the net weight;", DraftSurvey::netWeight);
        cargo(s);
        s.section("Promise 27: heaviest");
        s.holds("Finds the survey with the greatest net weight", WeightsSentences::greatestNetWeight);
        s.holds("among the surveys that can be computed.", WeightsSentences::amongTheComputed);
        s.holds("If several surveys have that weight, the one with the lowest number is returned.",
            WeightsSentences::lowestNumber);
        s.onlyNames("Returns the survey number;");
        s.holds("NOT_COVERED if no survey can be computed.", WeightsSentences::noneComputed);
    }

    private static void displacement(Sentences s) {
        s.section("Promise 21: displacement");
        s.holds("Returns the displacement of a shifted survey.", WeightsSentences::shiftedDisplacements);
        s.onlyNames("- `survey`: survey number");
        s.holds("- `shift`: -1000 to 1000", WeightsSentences::shifts);
        s.onlyNames("Returns the displacement;");
        s.holds("NO_SUCH_SURVEY;", check -> {
            for (int shift : new int[] {0, -1000, 1000, -1001, 1001, MIN, MAX}) {
                surveyMissing(check, (x, survey) -> x.displacement(survey, shift));
            }
        });
        s.holds("OUT_OF_RANGE if shift is out of range;", WeightsSentences::shiftOutOfRange);
        s.holds("NOT_COVERED if the shifted survey cannot be computed.", WeightsSentences::shiftedNotCovered);
    }

    private static void cargo(Sentences s) {
        s.section("Promise 23: cargo");
        s.holds("Returns the cargo between two surveys: the net weight of the second survey minus the net weight of the "
            + "first survey.", WeightsSentences::cargoes);
        ofTwoSurveys(s, "Returns the cargo;", DraftSurvey::cargo);
        s.holds("NOT_COVERED if one of the surveys cannot be computed.", WeightsSentences::cargoNotCovered);
        s.section("Promise 24: cargoLow");
        s.holds("Returns the lower bound of the cargo between two surveys.", WeightsSentences::lowerBounds);
        s.holds("The light weight of a survey is the smaller one, and the heavy weight is the greater one, of the net "
            + "weights of the survey shifted by minus the margin and by plus the margin.",
            WeightsSentences::lightAndHeavy);
        s.holds("The lower bound is the light weight of the second survey minus the heavy weight of the first survey.",
            WeightsSentences::lowerBoundOfWeights);
        ofTwoSurveys(s, "Returns the lower bound;", DraftSurvey::cargoLow);
        s.holds("NOT_COVERED if one of the shifted surveys cannot be computed.",
            check -> shiftedNotCovered(check, DraftSurvey::cargoLow));
        s.section("Promise 25: cargoHigh");
        s.holds("Returns the upper bound of the cargo between two surveys: the heavy weight of the second survey minus "
            + "the light weight of the first survey.", WeightsSentences::upperBounds);
        ofTwoSurveys(s, "Returns the upper bound;", DraftSurvey::cargoHigh);
        s.holds("NOT_COVERED if one of the shifted surveys cannot be computed.",
            check -> shiftedNotCovered(check, DraftSurvey::cargoHigh));
    }

    /** What the last lines of the promises about one survey have in common. */
    private static void ofOneSurvey(Sentences s, String returns, OfSurvey method) {
        s.holds("- `survey`: survey number", check -> {
            for (int survey = 0; survey < 4; survey++) {
                check.due("the answer for " + survey + " is one",
                    method.answer(Ships.laden(), survey) > NO_SUCH_SURVEY ? 1 : 0, 1);
            }
            check.due("the answer for -1", method.answer(Ships.laden(), -1), NO_SUCH_SURVEY);
            check.due("the answer for 4", method.answer(Ships.laden(), 4), NO_SUCH_SURVEY);
        });
        s.onlyNames(returns);
        s.holds("NO_SUCH_SURVEY;", check -> surveyMissing(check, method));
        s.holds("NOT_COVERED if the survey cannot be computed.", check -> surveyNotCovered(check, method));
    }

    private static void surveyMissing(Check check, OfSurvey method) {
        for (int survey : Ships.NO_SURVEYS) {
            Ships.refused(check, "the answer for " + survey, Ships::laden, x -> method.answer(x, survey),
                NO_SUCH_SURVEY);
            Ships.refused(check, "the answer for " + survey + " without a table", DraftSurvey::new,
                x -> method.answer(x, survey), NO_SUCH_SURVEY);
        }
    }

    /** The drafts 1000 to 3000 are covered. */
    private static void surveyNotCovered(Check check, OfSurvey method) {
        int[] drafts = {999, 1000, 2000, 3000, 3001, 0, 30000};
        for (int survey = 0; survey < 4; survey++) {
            for (int draft : drafts) {
                DraftSurvey x = withPlainFigures();
                Ships.level(x, survey, draft);
                long answer = method.answer(x, survey);
                boolean isCovered = draft >= 1000 && draft <= 3000;
                check.due("the answer for " + survey + " at " + draft + " is one", answer == NOT_COVERED ? 0 : 1,
                    isCovered ? 1 : 0);
                x.clearTable();
                check.due("the answer for " + survey + " without a table", method.answer(x, survey), NOT_COVERED);
            }
            int of = survey;
            Ships.refused(check, "the answer for " + of + " at 0", WeightsSentences::withPlainFigures,
                x -> method.answer(x, of), NOT_COVERED);
        }
    }

    /** The bullets and the first code of the three promises about two surveys. */
    private static void ofTwoSurveys(Sentences s, String returns, OfTwo method) {
        s.onlyNames("- `first`: survey number");
        s.holds("- `second`: survey number, may equal first", check -> {
            DraftSurvey x = Ships.laden();
            x.setMargin(0);
            for (int survey = 0; survey < 4; survey++) {
                check.due("the answer for " + survey + " twice", method.answer(x, survey, survey), 0);
            }
        });
        s.onlyNames(returns);
        s.holds("NO_SUCH_SURVEY if one of the numbers is invalid;", check -> {
            for (int missing : Ships.NO_SURVEYS) {
                for (int other : new int[] {0, 1, 2, 3, -1, 4, MIN, MAX}) {
                    surveysMissing(check, method, missing, other);
                    surveysMissing(check, method, other, missing);
                }
            }
        });
    }

    private static void surveysMissing(Check check, OfTwo method, int first, int second) {
        String call = "the answer for " + first + " and " + second;
        Ships.refused(check, call, Ships::laden, x -> method.answer(x, first, second), NO_SUCH_SURVEY);
        Ships.refused(check, call + " without a table", DraftSurvey::new, x -> method.answer(x, first, second),
            NO_SUCH_SURVEY);
    }

    /**
     * Column 0 is ten times the draft, from 1000 to 3000. With the least length the first correction is the trim, and
     * the second is a half of a hundredth of the trim's square, where Q1 and Q2 are not kept within the table.
     */
    private static DraftSurvey withPlainFigures() {
        DraftSurvey x = Ships.withRows("1000,10000,1000,1000,0", "3000,30000,1000,1000,2000");
        x.setLength(10000);
        return x;
    }

    /**
     * Ten rows, 1000 apart. The rise of MTC from row to row is 200, 400, 600 and so on. With the least length and a trim
     * of 1000 the first correction at a row is one more than its index, the second five times the change of MTC.
     */
    private static DraftSurvey withTenRows() {
        DraftSurvey x = new DraftSurvey();
        for (int row = 0; row < 10; row++) {
            Ships.row(x, 1000 * (row + 1) + "," + 1000 * row * row + "," + 100 * (row + 1) + ",10,"
                + 100 * row * (row + 1));
        }
        x.setLength(10000);
        return x;
    }

    private static void firstCorrections(Check check) {
        DraftSurvey ten = withTenRows();
        for (int row = 0; row < 10; row++) {
            Ships.floating(ten, 0, 1000 * (row + 1), 1000);
            Ships.floating(ten, 1, 1000 * (row + 1), -1000);
            check.due("firstCorrection(0) at row " + row, ten.firstCorrection(0), row + 1);
            check.due("firstCorrection(1) at row " + row, ten.firstCorrection(1), -row - 1);
            if (row < 9) {
                Ships.floating(ten, 1, 1000 * (row + 1) + 500, -1000);
                check.due("firstCorrection(1) behind row " + row, ten.firstCorrection(1), -row - 2);
            }
        }
        DraftSurvey x = withPlainFigures();
        int[] trims = {100, -100, 0, 7};
        for (int survey = 0; survey < 4; survey++) {
            Ships.floating(x, survey, 2000 + 10 * survey, trims[survey]);
        }
        for (int survey = 0; survey < 4; survey++) {
            check.due("firstCorrection(" + survey + ")", x.firstCorrection(survey), trims[survey]);
        }
        // neither the density nor the deductions nor the margin count
        x.setDensity(0, 1000);
        x.setDeduction(0, 0, 5);
        x.setMargin(50);
        check.due("firstCorrection(0) in fresh water", x.firstCorrection(0), 100);
    }

    private static void secondCorrections(Check check) {
        DraftSurvey ten = withTenRows();
        for (int row = 0; row < 10; row++) {
            // half of the rise before the row, and half of the rise behind it
            int change = row == 0 ? 100 : row == 9 ? 900 : 100 * row + 100 * (row + 1);
            Ships.floating(ten, 2, 1000 * (row + 1), 1000);
            check.due("secondCorrection(2) at row " + row, ten.secondCorrection(2), 5 * change);
        }
        DraftSurvey x = withPlainFigures();
        int[] trims = {100, -200, 0, 15};
        int[] due = {50, 200, 0, 1};
        for (int survey = 0; survey < 4; survey++) {
            Ships.floating(x, survey, 2000 + 10 * survey, trims[survey]);
        }
        for (int survey = 0; survey < 4; survey++) {
            check.due("secondCorrection(" + survey + ")", x.secondCorrection(survey), due[survey]);
        }
        x.setDensity(0, 1000);
        x.setDeduction(0, 0, 5);
        x.setMargin(50);
        check.due("secondCorrection(0) in fresh water", x.secondCorrection(0), 50);
    }

    private static void shiftedDisplacements(Check check) {
        DraftSurvey ten = withTenRows();
        Ships.floating(ten, 1, 9000, 1000);
        check.due("displacement(1, 0) of ten rows", ten.displacement(1, 0), 64000 + 9 + 5 * 1700);
        check.due("displacement(1, 1000) of ten rows", ten.displacement(1, 1000), 81000 + 10 + 5 * 900);
        check.due("displacement(1, -1000) of ten rows", ten.displacement(1, -1000), 49000 + 8 + 5 * 1500);
        check.due("displacement(1, 500) of ten rows", ten.displacement(1, 500), 72500 + 9 + 5 * 1800);
        DraftSurvey x = withPlainFigures();
        Ships.floating(x, 0, 2000, 100);
        Ships.floating(x, 3, 1500, 0);
        x.setDeduction(0, 0, 999);
        x.setMargin(100);
        // 10 * Q + the trim of 100 + 50, or less where Q1 or Q2 is kept within the table
        int[][] due = {{0, 20150}, {1, 20160}, {-1, 20140}, {500, 25150}, {501, 25159}, {-500, 15150}, {-501, 15139},
            {1000, 30125}, {-1000, 10125}, {999, 30115}, {-999, 10135}};
        for (int[] one : due) {
            check.due("displacement(0, " + one[0] + ")", x.displacement(0, one[0]), one[1]);
        }
        check.due("displacement(3, 250)", x.displacement(3, 250), 17500);
        check.due("displacement(3, -250)", x.displacement(3, -250), 12500);
        x.setDensity(3, 1000);
        check.due("displacement(3, 250) in fresh water", x.displacement(3, 250), 17073);
        check.due("quarterMean(3) behind it", x.quarterMean(3), 1500);
        check.due("displacement(3, 0) behind it", x.displacement(3, 0), 14634);
    }

    private static void shifts(Check check) {
        DraftSurvey x = withPlainFigures();
        Ships.floating(x, 2, 2000, 0);
        for (int shift : new int[] {-1000, -999, -1, 0, 1, 999, 1000}) {
            check.due("displacement(2, " + shift + ")", x.displacement(2, shift), 20000 + 10 * shift);
        }
        check.due("displacement(2, -1001)", x.displacement(2, -1001), OUT_OF_RANGE);
        check.due("displacement(2, 1001)", x.displacement(2, 1001), OUT_OF_RANGE);
    }

    private static void shiftOutOfRange(Check check) {
        for (int shift = -1200; shift <= 1200; shift++) {
            DraftSurvey x = withPlainFigures();
            Ships.level(x, 0, 2000);
            check.due("displacement(0, " + shift + ")", x.displacement(0, shift),
                shift >= -1000 && shift <= 1000 ? 20000 + 10 * shift : OUT_OF_RANGE);
        }
        for (int shift : new int[] {-1001, 1001, -30000, 30000, 65536, MIN, MAX}) {
            for (int survey = 0; survey < 4; survey++) {
                int of = survey;
                Ships.refused(check, "displacement(" + of + ", " + shift + ")", Ships::laden,
                    x -> x.displacement(of, shift), OUT_OF_RANGE);
                Ships.refused(check, "displacement(" + of + ", " + shift + ") without a table", DraftSurvey::new,
                    x -> x.displacement(of, shift), OUT_OF_RANGE);
            }
        }
    }

    private static void shiftedNotCovered(Check check) {
        int[][] due = {{1500, -501, 0}, {1500, -500, 1}, {2500, 500, 1}, {2500, 501, 0}, {999, 0, 0}, {999, 1, 1},
            {3001, 0, 0}, {3001, -1, 1}, {0, 999, 0}, {0, 1000, 1}, {4000, -999, 0}, {4000, -1000, 1}};
        for (int[] one : due) {
            for (int survey = 0; survey < 4; survey++) {
                DraftSurvey x = withPlainFigures();
                Ships.level(x, survey, one[0]);
                long answer = one[2] == 1 ? 10 * (one[0] + one[1]) : NOT_COVERED;
                check.due("displacement(" + survey + ", " + one[1] + ") at " + one[0], x.displacement(survey, one[1]),
                    answer);
                x.clearTable();
                check.due("displacement(" + survey + ", " + one[1] + ") without a table",
                    x.displacement(survey, one[1]), NOT_COVERED);
            }
        }
        Ships.refused(check, "displacement(0, 0) at 0", WeightsSentences::withPlainFigures, x -> x.displacement(0, 0),
            NOT_COVERED);
    }

    private static void netWeights(Check check) {
        DraftSurvey x = withPlainFigures();
        for (int survey = 0; survey < 4; survey++) {
            Ships.floating(x, survey, 1500 + 100 * survey, 10 * survey);
            x.setDeduction(survey, survey, 1000 * survey + 1);
            x.setDeduction(survey, 3, 5);
        }
        x.setDensity(1, 950);
        // 16000 + 10 + 0 in a density of 950: 14838; 17000 + 20 + 2; 18000 + 30 + 4
        long[] due = {15000 - 1 - 5, 14838 - 1001 - 5, 17022 - 2001 - 5, 18034 - 5};
        for (int survey = 0; survey < 4; survey++) {
            check.due("netWeight(" + survey + ")", x.netWeight(survey), due[survey]);
        }
        x.setMargin(100);
        check.due("netWeight(0) with a margin", x.netWeight(0), 14994);
        DraftSurvey one = Ships.withRows("0,0,0,0,0");
        for (int kind = 0; kind < 4; kind++) {
            one.setDeduction(3, kind, 9999999);
        }
        check.due("netWeight(3) of the greatest deductions", one.netWeight(3), -39999996);
        check.due("netWeight(2) of nothing", one.netWeight(2), 0);
    }

    /** The net weights are 14994, 13832, 15016 and 18029; the surveys shifted by 5 weigh more or less. */
    private static DraftSurvey withFourSurveys() {
        DraftSurvey x = withPlainFigures();
        for (int survey = 0; survey < 4; survey++) {
            Ships.floating(x, survey, 1500 + 100 * survey, 10 * survey);
            x.setDeduction(survey, survey, 1000 * survey + 1);
            x.setDeduction(survey, 3, 5);
        }
        x.setDensity(1, 950);
        return x;
    }

    private static void cargoes(Check check) {
        DraftSurvey x = withFourSurveys();
        long[] weights = {14994, 13832, 15016, 18029};
        for (int margin : new int[] {0, 5, 100}) {
            x.setMargin(margin);
            for (int first = 0; first < 4; first++) {
                for (int second = 0; second < 4; second++) {
                    check.due("cargo(" + first + ", " + second + ")", x.cargo(first, second),
                        weights[second] - weights[first]);
                }
            }
        }
    }

    private static void cargoNotCovered(Check check) {
        int[][] drafts = {{999, 2000}, {2000, 999}, {3001, 2000}, {2000, 3001}, {999, 3001}, {0, 0}};
        for (int[] pair : drafts) {
            DraftSurvey x = withPlainFigures();
            Ships.level(x, 1, pair[0]);
            Ships.level(x, 2, pair[1]);
            check.due("cargo(1, 2) at " + pair[0] + " and " + pair[1], x.cargo(1, 2), NOT_COVERED);
        }
        DraftSurvey x = withPlainFigures();
        Ships.level(x, 1, 1000);
        Ships.level(x, 2, 3000);
        check.due("cargo(1, 2) at 1000 and 3000", x.cargo(1, 2), 20000);
        check.due("cargo(1, 0)", x.cargo(1, 0), NOT_COVERED);
        check.due("cargo(0, 1)", x.cargo(0, 1), NOT_COVERED);
        check.due("cargo(0, 0)", x.cargo(0, 0), NOT_COVERED);
        // the margin is nothing to the cargo itself
        x.setMargin(100);
        check.due("cargo(1, 2) with a margin", x.cargo(1, 2), 20000);
        Ships.refused(check, "cargo(0, 3)", WeightsSentences::withPlainFigures, y -> y.cargo(0, 3), NOT_COVERED);
        check.due("cargo(0, 1) without a table", new DraftSurvey().cargo(0, 1), NOT_COVERED);
        x.clearTable();
        check.due("cargo(1, 2) of a cleared table", x.cargo(1, 2), NOT_COVERED);
        DraftSurvey one = Ships.withRows("0,7,1,1,1");
        check.due("cargo(0, 1) of one row", one.cargo(0, 1), 0);
        one.setReading(1, 5, 16);
        check.due("cargo(0, 1) beside one row", one.cargo(0, 1), NOT_COVERED);
    }

    private static void lowerBounds(Check check) {
        DraftSurvey x = withPlainFigures();
        Ships.level(x, 0, 1500);
        Ships.level(x, 1, 2500);
        int[] margins = {0, 1, 99, 100};
        for (int margin : margins) {
            x.setMargin(margin);
            check.due("cargoLow(0, 1) with the margin " + margin, x.cargoLow(0, 1), 10000 - 20 * margin);
            check.due("cargoLow(1, 0) with the margin " + margin, x.cargoLow(1, 0), -10000 - 20 * margin);
            check.due("cargoLow(0, 0) with the margin " + margin, x.cargoLow(0, 0), -20 * margin);
        }
    }

    /**
     * LCF falls from 1000 to -1000 between the drafts 2000 and 3000, TPC is 1000. So with a trim of 1000 and the least
     * length a millimetre takes 2 from the first correction: the weight falls where the survey floats deeper.
     */
    private static DraftSurvey withFallingWeights() {
        DraftSurvey x = Ships.withRows("1000,10000,1000,1000,0", "2000,11000,1000,1000,0", "3000,12000,1000,-1000,0",
            "4000,22000,1000,-1000,0");
        x.setLength(10000);
        return x;
    }

    private static void lightAndHeavy(Check check) {
        DraftSurvey x = withFallingWeights();
        Ships.floating(x, 0, 2500, 1000);
        Ships.floating(x, 1, 3500, 0);
        check.due("displacement(0, -10)", x.displacement(0, -10), 11510);
        check.due("displacement(0, 10)", x.displacement(0, 10), 11490);
        check.due("displacement(1, -10)", x.displacement(1, -10), 16900);
        check.due("displacement(1, 10)", x.displacement(1, 10), 17100);
        x.setMargin(10);
        check.due("cargoLow(0, 1)", x.cargoLow(0, 1), 16900 - 11510);
        check.due("cargoLow(1, 0)", x.cargoLow(1, 0), 11490 - 17100);
        check.due("cargoLow(0, 0)", x.cargoLow(0, 0), 11490 - 11510);
        check.due("cargoLow(1, 1)", x.cargoLow(1, 1), 16900 - 17100);
        x.setDensity(0, 1000);
        x.setDeduction(0, 2, 100);
        // 11510 and 11490 in a density of 1000, less 100: 11129 and 11109
        check.due("cargoLow(0, 1) in fresh water", x.cargoLow(0, 1), 16900 - 11129);
        check.due("cargoLow(1, 0) in fresh water", x.cargoLow(1, 0), 11109 - 17100);
        check.due("cargoHigh(0, 1) in fresh water", x.cargoHigh(0, 1), 17100 - 11109);
        // the weight has its peak between both shifts, 11990 each: it is not looked at
        Ships.floating(x, 2, 2000, 1000);
        check.due("cargoLow(2, 2) at the peak", x.cargoLow(2, 2), 0);
        check.due("cargoHigh(2, 2) at the peak", x.cargoHigh(2, 2), 0);
        check.due("displacement(2, 0) at the peak", x.displacement(2, 0), 12000);
        // nor is its trough: 11010 at 2990, 11000 at 3000, 11100 at 3010
        Ships.floating(x, 3, 3000, 1000);
        check.due("displacement(3, 0) at the trough", x.displacement(3, 0), 11000);
        check.due("cargoLow(3, 3) at the trough", x.cargoLow(3, 3), 11010 - 11100);
        check.due("cargoHigh(3, 3) at the trough", x.cargoHigh(3, 3), 11100 - 11010);
    }

    private static void lowerBoundOfWeights(Check check) {
        DraftSurvey x = withFourSurveys();
        x.setMargin(5);
        // 50 to either side, in a density of 950 from 15960 and 16060: 14792 and 14884
        long[] light = {14944, 14792 - 1006, 14966, 17979};
        long[] heavy = {15044, 14884 - 1006, 15066, 18079};
        for (int first = 0; first < 4; first++) {
            for (int second = 0; second < 4; second++) {
                check.due("cargoLow(" + first + ", " + second + ")", x.cargoLow(first, second),
                    light[second] - heavy[first]);
            }
        }
    }

    private static void upperBounds(Check check) {
        DraftSurvey x = withFourSurveys();
        x.setMargin(5);
        long[] light = {14944, 14792 - 1006, 14966, 17979};
        long[] heavy = {15044, 14884 - 1006, 15066, 18079};
        for (int first = 0; first < 4; first++) {
            for (int second = 0; second < 4; second++) {
                check.due("cargoHigh(" + first + ", " + second + ")", x.cargoHigh(first, second),
                    heavy[second] - light[first]);
            }
        }
        DraftSurvey y = withFallingWeights();
        Ships.floating(y, 0, 2500, 1000);
        Ships.floating(y, 1, 3500, 0);
        y.setMargin(10);
        check.due("cargoHigh(0, 1) of a falling weight", y.cargoHigh(0, 1), 17100 - 11490);
        check.due("cargoHigh(1, 0) of a falling weight", y.cargoHigh(1, 0), 11510 - 16900);
        check.due("cargoHigh(0, 0) of a falling weight", y.cargoHigh(0, 0), 11510 - 11490);
        y.setMargin(0);
        check.due("cargoHigh(0, 1) without a margin", y.cargoHigh(0, 1), 17000 - 11500);
        y.setMargin(100);
        check.due("cargoHigh(0, 1) with the greatest margin", y.cargoHigh(0, 1), 18000 - 11400);
    }

    /** Survey 1 floats well within the table, survey 2 where the margin just reaches its end, or just beyond. */
    private static void shiftedNotCovered(Check check, OfTwo method) {
        int[][] due = {{1000, 0, 1}, {1000, 1, 0}, {1001, 1, 1}, {1099, 100, 0}, {1100, 100, 1}, {3000, 0, 1},
            {3000, 1, 0}, {2999, 1, 1}, {2901, 100, 0}, {2900, 100, 1}, {999, 0, 0}, {999, 1, 0}, {3001, 0, 0},
            {3001, 1, 0}};
        for (int[] one : due) {
            DraftSurvey x = withPlainFigures();
            Ships.level(x, 1, 2000);
            Ships.level(x, 2, one[0]);
            x.setMargin(one[1]);
            int[][] pairs = {{1, 2}, {2, 1}, {2, 2}};
            for (int[] pair : pairs) {
                boolean isCovered = method.answer(x, pair[0], pair[1]) != NOT_COVERED;
                check.due("the answer for " + pair[0] + " and " + pair[1] + " at " + one[0] + " with the margin "
                    + one[1] + " is one", isCovered ? 1 : 0, one[2]);
            }
            check.due("the answer for 1 and 0", method.answer(x, 1, 0), NOT_COVERED);
            check.due("the answer for 0 and 1", method.answer(x, 0, 1), NOT_COVERED);
            check.due("the answer for 1 twice is one", method.answer(x, 1, 1) == NOT_COVERED ? 0 : 1, 1);
            x.clearTable();
            check.due("the answer for 1 and 2 of a cleared table", method.answer(x, 1, 2), NOT_COVERED);
        }
        oneRowAndNone(check, method);
    }

    private static void oneRowAndNone(Check check, OfTwo method) {
        Ships.refused(check, "the answer for 0 and 1", WeightsSentences::withPlainFigures, x -> method.answer(x, 0, 1),
            NOT_COVERED);
        Ships.refused(check, "the answer for 0 and 1 without a table", DraftSurvey::new, x -> method.answer(x, 0, 1),
            NOT_COVERED);
        DraftSurvey one = Ships.withRows("500,7,1,1,1");
        Ships.level(one, 0, 500);
        Ships.level(one, 1, 500);
        check.due("the answer for 0 and 1 of one row", method.answer(one, 0, 1), 0);
        one.setMargin(1);
        check.due("the answer for 0 and 1 of one row with a margin", method.answer(one, 0, 1), NOT_COVERED);
        Ships.level(one, 0, 499);
        check.due("the answer for 0 twice beside one row", method.answer(one, 0, 0), NOT_COVERED);
    }

    private static void greatestNetWeight(Check check) {
        for (int heavy = 0; heavy < 4; heavy++) {
            for (int next = 0; next < 4; next++) {
                if (next != heavy) {
                    heavierBy1(check, heavy, next);
                }
            }
        }
        // the net weight counts, not the draft, the displacement or the deductions
        DraftSurvey x = withPlainFigures();
        Ships.level(x, 0, 2000);
        Ships.level(x, 1, 2500);
        x.setDeduction(1, 0, 5001);
        check.due("heaviest() of 20000 and 25000 - 5001", x.heaviest(), 0);
        x.setDeduction(1, 0, 4999);
        check.due("heaviest() of 20000 and 25000 - 4999", x.heaviest(), 1);
        x.setDensity(1, 950);
        check.due("heaviest() of 20000 and less", x.heaviest(), 0);
    }

    private static void heavierBy1(Check check, int heavy, int next) {
        DraftSurvey x = Ships.withRows("0,100,0,0,0");
        for (int survey = 0; survey < 4; survey++) {
            x.setDeduction(survey, 1, survey == heavy ? 200 : survey == next ? 201 : 202 + survey);
        }
        check.due("heaviest() of -100 and -101", x.heaviest(), heavy);
        for (int survey = 0; survey < 4; survey++) {
            x.setDeduction(survey, 1, survey == heavy ? 20 : survey == next ? 21 : 22 + survey);
        }
        check.due("heaviest() of 80 and 79", x.heaviest(), heavy);
        for (int survey = 0; survey < 4; survey++) {
            x.setDeduction(survey, 1, survey == heavy ? 100 : survey == next ? 101 : 9999999);
        }
        check.due("heaviest() of 0 and -1", x.heaviest(), heavy);
    }

    private static void amongTheComputed(Check check) {
        for (int computed = 0; computed < 4; computed++) {
            DraftSurvey x = withPlainFigures();
            for (int survey = 0; survey < 4; survey++) {
                Ships.level(x, survey, survey == computed ? 1000 : 3001);
            }
            check.due("heaviest() where one can be computed", x.heaviest(), computed);
            x.setDeduction(computed, 0, 9999999);
            check.due("heaviest() where one below 0 can be computed", x.heaviest(), computed);
            Ships.level(x, 3 - computed, 3000);
            check.due("heaviest() where two can be computed", x.heaviest(), 3 - computed);
            Ships.level(x, computed, 999);
            check.due("heaviest() where the other can be computed", x.heaviest(), 3 - computed);
        }
        // the margin does not count
        DraftSurvey x = withPlainFigures();
        x.setMargin(100);
        Ships.level(x, 2, 3000);
        check.due("heaviest() at the end of the table", x.heaviest(), 2);
        // nor does any shift: a millimetre less or more would turn 0 and 500 into 0 and -500 or 1000 and 500
        DraftSurvey steep = Ships.withRows("0,0,0,0,0", "10,0,0,0,0", "11,1000,0,0,0", "12,1000,0,0,0");
        Ships.level(steep, 0, 10);
        Ships.level(steep, 1, 11);
        steep.setDeduction(1, 0, 500);
        steep.setDeduction(2, 0, 9999999);
        steep.setDeduction(3, 0, 9999999);
        steep.setMargin(1);
        check.due("heaviest() of 0 and 500", steep.heaviest(), 1);
    }

    private static void lowestNumber(Check check) {
        for (int mask = 1; mask < 16; mask++) {
            DraftSurvey high = Ships.withRows("0,100,0,0,0");
            DraftSurvey low = Ships.withRows("0,100,0,0,0");
            for (int survey = 0; survey < 4; survey++) {
                boolean isHeavy = (mask >> survey & 1) == 1;
                high.setDeduction(survey, 3, isHeavy ? 10 : 11);
                low.setDeduction(survey, 0, isHeavy ? 500 : 501);
            }
            check.due("heaviest() of equals " + mask, high.heaviest(), Integer.numberOfTrailingZeros(mask));
            check.due("heaviest() of negative equals " + mask, low.heaviest(), Integer.numberOfTrailingZeros(mask));
        }
        // equal net weights of unequal ships, and equals of which one cannot be computed
        DraftSurvey x = withPlainFigures();
        Ships.level(x, 1, 2000);
        Ships.level(x, 3, 2500);
        x.setDeduction(3, 3, 5000);
        check.due("heaviest() of 20000 twice", x.heaviest(), 1);
        Ships.level(x, 1, 999);
        check.due("heaviest() of 20000 once", x.heaviest(), 3);
    }

    private static void noneComputed(Check check) {
        check.due("heaviest() without a table", new DraftSurvey().heaviest(), NOT_COVERED);
        DraftSurvey x = withPlainFigures();
        for (int survey = 0; survey < 4; survey++) {
            Ships.level(x, survey, survey % 2 == 0 ? 999 : 3001);
        }
        check.due("heaviest() beside the table", x.heaviest(), NOT_COVERED);
        Ships.level(x, 3, 3000);
        check.due("heaviest() with one at the end", x.heaviest(), 3);
        x.clearTable();
        check.due("heaviest() of a cleared table", x.heaviest(), NOT_COVERED);
        Ships.refused(check, "heaviest()", WeightsSentences::withPlainFigures, DraftSurvey::heaviest, NOT_COVERED);
        DraftSurvey one = Ships.withRows("1,1,1,1,1");
        check.due("heaviest() beside one row", one.heaviest(), NOT_COVERED);
        Ships.level(one, 2, 1);
        check.due("heaviest() at one row", one.heaviest(), 2);
    }
}
