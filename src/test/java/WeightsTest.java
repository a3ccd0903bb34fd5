/** Promises 19 to 25 and 27: corrections, displacement, net weight, cargo and the heaviest survey. */
public final class WeightsTest {
    private static final Check CHECK = new Check("WeightsTest");
    private static final int MIN = Integer.MIN_VALUE;
    private static final int MAX = Integer.MAX_VALUE;
    private static final long NOT_COVERED = DraftSurvey.NOT_COVERED;
    private static final long NO_SUCH_SURVEY = DraftSurvey.NO_SUCH_SURVEY;

    public static void main(String[] args) {
        corrections();
        correctionsNearTheEnds();
        correctionsWithLength();
        correctionsWithOneRow();
        displacementWithDensity();
        displacementWithShift();
        greatestFigures();
        coveredEdges();
        netWeight();
        cargo();
        cargoBounds();
        cargoBoundsOfFallingWeights();
        cargoBoundsAtTheEnds();
        heaviest();
        heaviestUnshifted();
        heaviestOfNegatives();
        withoutTable();
        noSuchSurvey();
        CHECK.end();
    }

    private static DraftSurvey withTable() {
        DraftSurvey x = new DraftSurvey();
        CHECK.row(x, "5000,100000,2000,-1000,5000");
        CHECK.row(x, "6000,121000,2200,1000,6000");
        CHECK.row(x, "7000,144000,2400,2000,8000");
        return x;
    }

    private static void figures(DraftSurvey x, int survey, long first, long second, long displacement) {
        CHECK.due("firstCorrection(" + survey + ")", x.firstCorrection(survey), first);
        CHECK.due("secondCorrection(" + survey + ")", x.secondCorrection(survey), second);
        CHECK.due("displacement(" + survey + ", 0)", x.displacement(survey, 0), displacement);
    }

    private static void corrections() {
        DraftSurvey x = withTable();
        // Q = 5925: column 0 is 119425, TPC 2185, LCF 850; MTC from 5425 to 6850; trim 1200
        CHECK.drafts(x, 0, 5400, 5900, 6600);
        figures(x, 0, 123, 570, 120118);
        // the trim by the head turns the sign of the first correction alone
        CHECK.drafts(x, 1, 6600, 5900, 5400);
        figures(x, 1, -124, 570, 119871);
        CHECK.drafts(x, 2, 5925, 5925, 5925);
        figures(x, 2, 0, 0, 119425);
        figures(x, 3, NOT_COVERED, NOT_COVERED, NOT_COVERED);
    }

    private static void correctionsNearTheEnds() {
        DraftSurvey x = withTable();
        CHECK.drafts(x, 0, 5000, 5100, 5300);
        figures(x, 0, -27, 15, 102340);
        CHECK.drafts(x, 1, 7100, 6900, 6800);
        figures(x, 1, -76, 29, 141929);
        CHECK.drafts(x, 2, 5600, 5100, 4800);
        figures(x, 2, 67, 111, 102803);
    }

    private static void correctionsWithLength() {
        DraftSurvey x = withTable();
        CHECK.drafts(x, 0, 5400, 5900, 6600);
        CHECK.drafts(x, 1, 6600, 5900, 5400);
        CHECK.due("setLength(10000)", x.setLength(10000), 180000);
        figures(x, 0, 2228, 10260, 131913);
        figures(x, 1, -2229, 10260, 127456);
        CHECK.due("setLength(400000)", x.setLength(400000), 10000);
        figures(x, 0, 55, 256, 119736);
        figures(x, 1, -56, 256, 119625);
    }

    private static void correctionsWithOneRow() {
        DraftSurvey x = new DraftSurvey();
        CHECK.row(x, "1000,5000,100,100000,200000");
        CHECK.drafts(x, 0, 900, 1000, 1100);
        figures(x, 0, 111, 0, 5111);
        CHECK.due("displacement(0, -1)", x.displacement(0, -1), NOT_COVERED);
        CHECK.due("displacement(0, 1)", x.displacement(0, 1), NOT_COVERED);
    }

    private static void displacementWithDensity() {
        DraftSurvey x = withTable();
        CHECK.drafts(x, 0, 5400, 5900, 6600);
        CHECK.drafts(x, 1, 6600, 5900, 5400);
        int[] densities = {1000, 950, 1050, 1025};
        long[] first = {117188, 111328, 123047, 120118};
        long[] second = {116947, 111099, 122794, 119871};
        for (int i = 0; i < densities.length; i++) {
            x.setDensity(0, densities[i]);
            figures(x, 0, 123, 570, first[i]);
            CHECK.due("displacement(1, 0)", x.displacement(1, 0), i == 0 ? second[3] : second[i - 1]);
            x.setDensity(1, densities[i]);
            figures(x, 1, -124, 570, second[i]);
        }
    }

    private static void displacementWithShift() {
        DraftSurvey x = withTable();
        CHECK.drafts(x, 2, 5400, 5900, 6600);
        int[] shifts = {-1000, -926, -925, -1, 0, 1, 500, 1000};
        long[] due = {NOT_COVERED, NOT_COVERED, 100066, 120096, 120118, 120140, 131762, 143041};
        for (int i = 0; i < shifts.length; i++) {
            CHECK.due("displacement(2, " + shifts[i] + ")", x.displacement(2, shifts[i]), due[i]);
        }
        int[] refused = {-1001, 1001, MIN, MAX};
        for (int shift : refused) {
            CHECK.due("displacement(2, " + shift + ")", x.displacement(2, shift), DraftSurvey.OUT_OF_RANGE);
            CHECK.due("displacement(3, " + shift + ")", x.displacement(3, shift), DraftSurvey.OUT_OF_RANGE);
            CHECK.due("displacement(4, " + shift + ")", x.displacement(4, shift), NO_SUCH_SURVEY);
        }
        for (int mark = 0; mark < 6; mark++) {
            CHECK.due("reading(2, " + mark + ")", x.reading(2, mark), new int[] {5400, 5900, 6600}[mark / 2]);
        }
        // shifted readings that are negative: Q = 500 - 500
        DraftSurvey y = new DraftSurvey();
        CHECK.row(y, "0,0,0,0,0");
        CHECK.row(y, "1000,1000,0,0,0");
        CHECK.drafts(y, 0, 400, 500, 600);
        CHECK.due("displacement(0, -500)", y.displacement(0, -500), 0);
        CHECK.due("displacement(0, -501)", y.displacement(0, -501), NOT_COVERED);
        CHECK.due("displacement(0, 500)", y.displacement(0, 500), 1000);
        CHECK.due("displacement(0, 501)", y.displacement(0, 501), NOT_COVERED);
        // an odd sum of the readings, shifted: F = floor(-7 / 2) = -4, as 3 / 2 less 5
        y.setReading(1, 0, 1);
        y.setReading(1, 1, 2);
        CHECK.due("displacement(1, 5)", y.displacement(1, 5), 5);
        CHECK.due("displacement(1, -1)", y.displacement(1, -1), NOT_COVERED);
    }

    private static void greatestFigures() {
        DraftSurvey x = new DraftSurvey();
        CHECK.row(x, "0,0,20000,100000,200000");
        CHECK.row(x, "30000,0,20000,-100000,0");
        x.setLength(10000);
        CHECK.drafts(x, 0, 0, 20000, 30000);
        CHECK.drafts(x, 1, 30000, 20000, 0);
        x.setDensity(0, 1050);
        x.setDensity(1, 950);
        figures(x, 0, -15000000, -30001500, -46099098);
        figures(x, 1, 15000000, -30001500, -13903830);
        // all of MTC's range lies between Q1 and Q2
        x.clearTable();
        CHECK.row(x, "18250,9999999,20000,100000,200000");
        CHECK.row(x, "18750,9999999,20000,100000,0");
        x.setDensity(1, 1050);
        figures(x, 1, -60000000, -900000000, -973170733);
    }

    private static void coveredEdges() {
        DraftSurvey x = withTable();
        CHECK.drafts(x, 0, 5000, 5000, 5000);
        figures(x, 0, 0, 0, 100000);
        CHECK.drafts(x, 1, 7000, 7000, 7000);
        figures(x, 1, 0, 0, 144000);
        CHECK.drafts(x, 2, 4999, 5000, 5000);
        figures(x, 2, NOT_COVERED, NOT_COVERED, NOT_COVERED);
        CHECK.due("netWeight(2)", x.netWeight(2), NOT_COVERED);
        CHECK.drafts(x, 3, 7000, 7000, 7008);
        figures(x, 3, NOT_COVERED, NOT_COVERED, NOT_COVERED);
        CHECK.due("netWeight(3)", x.netWeight(3), NOT_COVERED);
        CHECK.drafts(x, 3, 7000, 7000, 7007);
        CHECK.due("netWeight(3) at 7000", x.netWeight(3), 144001);
    }

    private static void netWeight() {
        DraftSurvey x = withTable();
        CHECK.drafts(x, 0, 5400, 5900, 6600);
        CHECK.due("netWeight(0)", x.netWeight(0), 120118);
        long due = 120118;
        int[] weights = {1, 20, 300, 4000};
        for (int kind = 0; kind < 4; kind++) {
            x.setDeduction(0, kind, weights[kind]);
            due -= weights[kind];
            CHECK.due("netWeight(0) with deductions", x.netWeight(0), due);
        }
        CHECK.due("displacement(0, 0) with deductions", x.displacement(0, 0), 120118);
        x.setDensity(0, 1000);
        CHECK.due("netWeight(0) in fresh water", x.netWeight(0), 117188 - 4321);
        for (int kind = 0; kind < 4; kind++) {
            x.setDeduction(0, kind, 9999999);
        }
        CHECK.due("netWeight(0) with all deductions", x.netWeight(0), 117188 - 39999996L);
    }

    private static DraftSurvey withTwoSurveys() {
        DraftSurvey x = withTable();
        CHECK.drafts(x, 0, 5400, 5900, 6600);
        CHECK.drafts(x, 1, 6500, 6700, 6710);
        x.setDensity(1, 1010);
        x.setDeduction(1, 0, 12345);
        return x;
    }

    private static void cargo() {
        DraftSurvey x = withTwoSurveys();
        CHECK.due("cargo(0, 1)", x.cargo(0, 1), 122268 - 120118);
        CHECK.due("cargo(1, 0)", x.cargo(1, 0), 120118 - 122268);
        CHECK.due("cargo(0, 0)", x.cargo(0, 0), 0);
        CHECK.due("cargo(1, 1)", x.cargo(1, 1), 0);
        CHECK.due("cargo(0, 2)", x.cargo(0, 2), NOT_COVERED);
        CHECK.due("cargo(2, 0)", x.cargo(2, 0), NOT_COVERED);
        CHECK.due("cargo(2, 3)", x.cargo(2, 3), NOT_COVERED);
        x.setMargin(5);
        CHECK.due("cargo(0, 1) with a margin", x.cargo(0, 1), 2150);
    }

    private static void bounds(DraftSurvey x, int first, int second, long low, long high) {
        CHECK.due("cargoLow(" + first + ", " + second + ")", x.cargoLow(first, second), low);
        CHECK.due("cargoHigh(" + first + ", " + second + ")", x.cargoHigh(first, second), high);
    }

    private static void cargoBounds() {
        DraftSurvey x = withTwoSurveys();
        bounds(x, 0, 1, 2150, 2150);
        x.setMargin(5);
        bounds(x, 0, 1, 122155 - 120227, 122382 - 120010);
        bounds(x, 1, 0, 120010 - 122382, 120227 - 122155);
        bounds(x, 0, 0, 120010 - 120227, 120227 - 120010);
        bounds(x, 0, 2, NOT_COVERED, NOT_COVERED);
        bounds(x, 2, 0, NOT_COVERED, NOT_COVERED);
        bounds(x, 2, 2, NOT_COVERED, NOT_COVERED);
    }

    private static void cargoBoundsOfFallingWeights() {
        DraftSurvey x = new DraftSurvey();
        CHECK.row(x, "1000,5000,100,100000,200000");
        CHECK.row(x, "1100,5001,100,-100000,0");
        CHECK.drafts(x, 0, 1000, 1050, 1100);
        CHECK.drafts(x, 1, 1050, 1050, 1050);
        x.setMargin(10);
        CHECK.due("displacement(0, -10)", x.displacement(0, -10), 4455);
        CHECK.due("displacement(0, 10)", x.displacement(0, 10), 4432);
        bounds(x, 0, 0, 4432 - 4455, 4455 - 4432);
        bounds(x, 0, 1, 5000 - 4455, 5000 - 4432);
        bounds(x, 1, 0, 4432 - 5000, 4455 - 5000);
    }

    private static void cargoBoundsAtTheEnds() {
        DraftSurvey x = withTable();
        CHECK.drafts(x, 0, 5000, 5000, 5000);
        CHECK.drafts(x, 1, 6000, 6000, 6000);
        CHECK.drafts(x, 2, 7000, 7000, 7000);
        CHECK.drafts(x, 3, 5100, 5100, 5100);
        x.setMargin(1);
        bounds(x, 0, 1, NOT_COVERED, NOT_COVERED);
        bounds(x, 1, 0, NOT_COVERED, NOT_COVERED);
        bounds(x, 1, 2, NOT_COVERED, NOT_COVERED);
        bounds(x, 2, 1, NOT_COVERED, NOT_COVERED);
        CHECK.due("cargo(0, 2)", x.cargo(0, 2), 44000);
        CHECK.due("cargo(2, 0)", x.cargo(2, 0), -44000);
        x.setMargin(100);
        bounds(x, 3, 1, 118900 - 104200, 123300 - 100000);
        x.setMargin(0);
        bounds(x, 0, 2, 44000, 44000);
    }

    private static void heaviest() {
        DraftSurvey x = withTable();
        CHECK.due("heaviest() of none", x.heaviest(), NOT_COVERED);
        CHECK.drafts(x, 3, 5000, 5000, 5000);
        CHECK.due("heaviest() of 3", x.heaviest(), 3);
        CHECK.drafts(x, 1, 5000, 5000, 5000);
        CHECK.due("heaviest() of 1 and 3", x.heaviest(), 1);
        x.setDeduction(1, 3, 1);
        CHECK.due("heaviest() of a lighter 1", x.heaviest(), 3);
        CHECK.drafts(x, 2, 5001, 5001, 5001);
        CHECK.due("heaviest() of 2", x.heaviest(), 2);
        CHECK.drafts(x, 0, 7001, 7001, 7001);
        CHECK.due("heaviest() without 0", x.heaviest(), 2);
        CHECK.drafts(x, 0, 7000, 7000, 7000);
        CHECK.due("heaviest() with 0", x.heaviest(), 0);
        x.setDeduction(0, 0, 144000);
        CHECK.due("heaviest() of net weights", x.heaviest(), 2);
    }

    /** A shift would lift or sink one of the surveys beyond the other. */
    private static void heaviestUnshifted() {
        DraftSurvey x = new DraftSurvey();
        CHECK.row(x, "0,0,0,0,0");
        CHECK.row(x, "100,100,0,0,0");
        CHECK.row(x, "200,1100,0,0,0");
        CHECK.drafts(x, 0, 50, 50, 50);
        CHECK.drafts(x, 1, 150, 150, 150);
        x.setDeduction(1, 0, 555);
        CHECK.due("heaviest() of 50 and 45", x.heaviest(), 0);
        x.setDeduction(1, 0, 545);
        CHECK.due("heaviest() of 50 and 55", x.heaviest(), 1);
    }

    private static void heaviestOfNegatives() {
        DraftSurvey x = withTable();
        for (int survey = 0; survey < 4; survey++) {
            CHECK.drafts(x, survey, 5000, 5000, 5000);
            x.setDeduction(survey, 1, 200000 + survey);
        }
        CHECK.due("heaviest() of negatives", x.heaviest(), 0);
        x.setDeduction(0, 1, 300000);
        CHECK.due("heaviest() of negatives without 0", x.heaviest(), 1);
        x.setDeduction(3, 1, 150000);
        CHECK.due("heaviest() of negatives with 3", x.heaviest(), 3);
        DraftSurvey y = new DraftSurvey();
        CHECK.row(y, "0,0,0,0,0");
        CHECK.due("heaviest() of zeros", y.heaviest(), 0);
    }

    private static void withoutTable() {
        DraftSurvey x = new DraftSurvey();
        figures(x, 0, NOT_COVERED, NOT_COVERED, NOT_COVERED);
        CHECK.due("netWeight(3)", x.netWeight(3), NOT_COVERED);
        CHECK.due("cargo(0, 0)", x.cargo(0, 0), NOT_COVERED);
        bounds(x, 0, 0, NOT_COVERED, NOT_COVERED);
        DraftSurvey y = withTwoSurveys();
        y.clearTable();
        figures(y, 0, NOT_COVERED, NOT_COVERED, NOT_COVERED);
        CHECK.due("cargo(0, 1) of a cleared table", y.cargo(0, 1), NOT_COVERED);
        CHECK.due("heaviest() of a cleared table", y.heaviest(), NOT_COVERED);
    }

    private static void noSuchSurvey() {
        DraftSurvey x = withTwoSurveys();
        int[] missing = {-1, 4, 5, MIN, MAX};
        for (int survey : missing) {
            figures(x, survey, NO_SUCH_SURVEY, NO_SUCH_SURVEY, NO_SUCH_SURVEY);
            CHECK.due("netWeight(" + survey + ")", x.netWeight(survey), NO_SUCH_SURVEY);
            // survey 2 cannot be computed, but the missing survey is told first
            for (int other = 0; other < 4; other += 2) {
                CHECK.due("cargo(" + other + ", " + survey + ")", x.cargo(other, survey), NO_SUCH_SURVEY);
                CHECK.due("cargo(" + survey + ", " + other + ")", x.cargo(survey, other), NO_SUCH_SURVEY);
                bounds(x, other, survey, NO_SUCH_SURVEY, NO_SUCH_SURVEY);
                bounds(x, survey, other, NO_SUCH_SURVEY, NO_SUCH_SURVEY);
            }
            bounds(x, survey, survey, NO_SUCH_SURVEY, NO_SUCH_SURVEY);
        }
    }
}
