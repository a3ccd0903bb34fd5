import java.util.Arrays;

/** The sentences of the description, but for the errors and the constants. */
final class DescriptionSentences {
    private static final long NOT_COVERED = DraftSurvey.NOT_COVERED;
    private static final long NO_SUCH_SURVEY = DraftSurvey.NO_SUCH_SURVEY;
    private static final int MIN = Ships.MIN;
    private static final int MAX = Ships.MAX;

    private DescriptionSentences() {
    }

    static void all(Sentences s) {
        s.section("What it is");
        s.holds("An object is used for at most 512 calls after it has been made", DescriptionSentences::lastCall);
        s.section("Description");
        s.onlyNames("Units. Drafts, lengths and positions are in millimetres. Weights are in tenths of a tonne. Tonnes "
            + "per centimetre immersion (TPC) are in hundredths. The moment to change trim by one centimetre (MTC) is "
            + "in tenths of a tonne-metre. Densities are in kilograms per cubic metre.");
        s.holds("floorDiv(a, b) is Math.floorDiv: the quotient rounded towards negative infinity.",
            DescriptionSentences::roundedDown);
        s.holds("All divisions in this document are floorDiv, and all arithmetic is done in long; no result overflows.",
            DescriptionSentences::nothingOverflows);
        table(s);
        surveys(s);
        weights(s);
    }

    private static void table(Sentences s) {
        s.holds("Hydrostatic table. The table has up to 10 rows.", DescriptionSentences::upToTenRows);
        s.holds("Each row has a draft and four columns: column 0 is the displacement in water of density 1025, column "
            + "1 is TPC, column 2 is the longitudinal centre of flotation (LCF, positive aft of midships), column 3 is "
            + "MTC.", DescriptionSentences::fourColumns);
        s.holds("The drafts of the rows strictly increase.", DescriptionSentences::draftsIncrease);
        s.holds("The displacements of the rows never decrease.", DescriptionSentences::displacementsNeverDecrease);
        s.holds("Interpolation. A draft d is covered by the table if the table has at least one row",
            DescriptionSentences::coveredByOneRow);
        s.holds("and d lies between the draft of the first row and the draft of the last row, both included.",
            DescriptionSentences::coveredBothIncluded);
        s.holds("If d is the draft of a row, then the value of a column is the value in that row.",
            DescriptionSentences::valueInRow);
        s.holds("Otherwise let row i be the last row whose draft is less than d, with draft d1 and value v1, and let d2 "
            + "and v2 be the draft and the value of row i + 1.", DescriptionSentences::rowsOnEitherSide);
        s.holds("Then the value is v1 + floorDiv((v2 - v1) * (d - d1), d2 - d1).", DescriptionSentences::interpolated);
    }

    private static void surveys(Sentences s) {
        s.holds("Surveys. There are four surveys, numbered 0 to 3.", DescriptionSentences::fourSurveys);
        s.holds("A survey has six draft readings: mark 0 is forward port, 1 forward starboard, 2 midship port, 3 "
            + "midship starboard, 4 aft port, 5 aft starboard.", DescriptionSentences::sixReadings);
        s.holds("It has a water density and four deductions (0 ballast, 1 fuel, 2 fresh water, 3 constant).",
            DescriptionSentences::densityAndDeductions);
        s.holds("At first all readings and deductions are 0 and the density is 1025.", DescriptionSentences::atFirst);
        s.holds("Drafts of a survey. The forward draft F, the midship draft M and the aft draft A are floorDiv(port + "
            + "starboard, 2) of the readings there.", DescriptionSentences::halvedReadings);
        s.holds("The trim is A - F.", DescriptionSentences::trim);
        s.holds("The quarter mean draft Q is floorDiv(F + 6 * M + A, 8).", DescriptionSentences::quarterMean);
    }

    private static void weights(Sentences s) {
        s.holds("Displacement of a survey. The first trim correction is floorDiv(trim * TPC * LCF, 100 * length), with "
            + "TPC and LCF at Q.", DescriptionSentences::firstCorrection);
        s.holds("The second trim correction is floorDiv(50 * trim * trim * (MTC at Q2 - MTC at Q1), 1000 * length).",
            DescriptionSentences::secondCorrection);
        s.holds("Q1 is Q - 500, but not less than the draft of the first row;", DescriptionSentences::keptFromFirstRow);
        s.holds("Q2 is Q + 500, but not more than the draft of the last row.", DescriptionSentences::keptFromLastRow);
        s.holds("The displacement is floorDiv((column 0 at Q + first correction + second correction) * density, 1025).",
            DescriptionSentences::displacement);
        s.holds("The net weight is the displacement minus the four deductions.", DescriptionSentences::netWeight);
        s.holds("A survey can be computed if Q is covered by the table.", DescriptionSentences::canBeComputed);
        s.holds("Shifted surveys. A survey shifted by s is a survey in which s is added to each of the six readings; "
            + "everything else is the same.", DescriptionSentences::shifted);
        s.holds("Shifted readings may be negative.", DescriptionSentences::shiftedBelowZero);
    }

    private static void lastCall(Check check) {
        DraftSurvey x = new DraftSurvey();
        for (int call = 1; call <= 510; call++) {
            check.due("call " + call, x.setReading(call % 4, call % 6, call), call <= 12 ? 0 : call - 12);
        }
        check.due("call 511", x.reading(510 % 4, 510 % 6), 510);
        check.due("call 512", x.rowCount(), 0);
    }

    private static void roundedDown(Check check) {
        DraftSurvey x = Ships.withRows("10,0,0,0,0", "13,0,0,-10,0", "16,0,0,-19,10", "19,0,0,-19,20");
        int[] drafts = {11, 12, 13, 14, 15, 16};
        int[] falling = {-4, -7, -10, -13, -16, -19};
        int[] rising = {0, 0, 0, 3, 6, 10};
        for (int i = 0; i < drafts.length; i++) {
            check.due("tableValue(2, " + drafts[i] + ")", x.tableValue(2, drafts[i]), falling[i]);
            check.due("tableValue(3, " + drafts[i] + ")", x.tableValue(3, drafts[i]), rising[i]);
        }
        roundedCorrections(check);
        roundedDisplacements(check);
        // halved drafts: 3.5, 5.5 and 8.5; half of F + A: 5.5; an eighth of F + 6M + A: 5.125
        Ships.readings(x, 0, 3, 4, 5, 6, 8, 9);
        check.due("trim(0)", x.trim(0), 5);
        check.due("deflection(0)", x.deflection(0), 0);
        check.due("quarterMean(0)", x.quarterMean(0), 5);
    }

    private static void roundedCorrections(Check check) {
        DraftSurvey x = Ships.withRows("0,0,1000,500,1", "20000,0,1000,500,1", "20001,0,1000,1000,0");
        x.setLength(10000);
        // the first correction is half of the trim
        int[] trims = {-8, -7, -1, 0, 1, 7, 8};
        int[] halves = {-4, -4, -1, 0, 0, 3, 4};
        for (int i = 0; i < trims.length; i++) {
            Ships.floating(x, 0, 1000, trims[i]);
            check.due("firstCorrection(0) with the trim " + trims[i], x.firstCorrection(0), halves[i]);
        }
        // the second correction falls by 5 for a trim of 1000, and by a very small part of 1 for a trim of 1
        int[] near = {0, 1, 2, 200, 400, 447, 448, 1000, 2000};
        int[] due = {0, -1, -1, -1, -1, -1, -2, -5, -20};
        for (int i = 0; i < near.length; i++) {
            Ships.floating(x, 1, 19501, near[i]);
            check.due("secondCorrection(1) with the trim " + near[i], x.secondCorrection(1), due[i]);
            Ships.floating(x, 1, 19501, -near[i]);
            check.due("secondCorrection(1) with the trim -" + near[i], x.secondCorrection(1), due[i]);
            Ships.floating(x, 1, 19500, near[i]);
            check.due("secondCorrection(1) at 19500", x.secondCorrection(1), 0);
        }
    }

    private static void roundedDisplacements(Check check) {
        DraftSurvey x = Ships.withRows("0,0,1000,1000,0", "20000,0,1000,1000,0");
        x.setLength(10000);
        int[] sums = {-42, -41, -2, -1, 0, 1, 2, 41, 42};
        int[][] due = {{-44, -42, -3, -2, 0, 1, 2, 42, 43}, {-39, -38, -2, -1, 0, 0, 1, 38, 38}};
        int[] densities = {1050, 950};
        for (int i = 0; i < sums.length; i++) {
            Ships.floating(x, 0, 1000, sums[i]);
            for (int water = 0; water < 2; water++) {
                x.setDensity(0, densities[water]);
                check.due("displacement(0, 0) of " + sums[i] + " in " + densities[water], x.displacement(0, 0),
                    due[water][i]);
            }
        }
    }

    /** All readings, columns, densities and deductions at their ends, so that each figure is as far out as it goes. */
    private static DraftSurvey withGreatestFigures() {
        DraftSurvey x = Ships.withRows("9500,0,20000,-100000,200000", "10500,0,20000,-100000,0",
            "19500,9999999,20000,100000,0", "20500,9999999,20000,100000,200000");
        x.setLength(10000);
        Ships.floating(x, 0, 10000, 30000);
        Ships.floating(x, 1, 20000, 30000);
        for (int kind = 0; kind < 4; kind++) {
            x.setDeduction(0, kind, 9999999);
        }
        x.setDensity(0, 1050);
        x.setDensity(1, 1050);
        return x;
    }

    private static void nothingOverflows(Check check) {
        DraftSurvey x = withGreatestFigures();
        check.due("firstCorrection(0)", x.firstCorrection(0), -60000000);
        check.due("firstCorrection(1)", x.firstCorrection(1), 60000000);
        check.due("secondCorrection(0)", x.secondCorrection(0), -900000000);
        check.due("secondCorrection(1)", x.secondCorrection(1), 900000000);
        check.due("displacement(0, 0)", x.displacement(0, 0), -983414635);
        check.due("displacement(1, 0)", x.displacement(1, 0), 993658535);
        check.due("netWeight(0)", x.netWeight(0), -983414635 - 39999996);
        check.due("cargo(0, 1)", x.cargo(0, 1), 2017073166);
        check.due("cargo(1, 0)", x.cargo(1, 0), -2017073166);
        check.due("cargoLow(0, 1)", x.cargoLow(0, 1), 2017073166);
        check.due("cargoHigh(1, 0)", x.cargoHigh(1, 0), -2017073166);
        check.due("heaviest()", x.heaviest(), 1);
        Ships.floating(x, 2, 20000, -30000);
        check.due("firstCorrection(2)", x.firstCorrection(2), -60000000);
        check.due("secondCorrection(2)", x.secondCorrection(2), 900000000);
        x = Ships.withRows("0,0,0,-100000,200000", "30000,9999999,20000,100000,0");
        check.due("tableValue(0, 29999)", x.tableValue(0, 29999), 9999665);
        check.due("tableValue(1, 29999)", x.tableValue(1, 29999), 19999);
        check.due("tableValue(2, 29999)", x.tableValue(2, 29999), 99993);
        check.due("tableValue(3, 29999)", x.tableValue(3, 29999), 6);
        check.due("draftFor(9999665)", x.draftFor(9999665), 29999);
    }

    private static void upToTenRows(Check check) {
        DraftSurvey x = new DraftSurvey();
        for (int round = 0; round < 2; round++) {
            for (int row = 0; row < 10; row++) {
                check.due("rowCount() with " + row + " rows", x.rowCount(), row);
                Ships.type(x, row + "," + row + ",1,1,1");
                check.due("addRow() to " + row + " rows", x.addRow(), row + 1);
                check.due("rowDraft(" + row + ")", x.rowDraft(row), row);
            }
            Ships.type(x, "10,10,1,1,1");
            check.due("addRow() to 10 rows", x.addRow(), DraftSurvey.FULL);
            check.due("rowCount() with 10 rows", x.rowCount(), 10);
            check.due("rowDraft(10) with 10 rows", x.rowDraft(10), DraftSurvey.NO_SUCH_ITEM);
            check.due("clearBuffer()", x.clearBuffer(), 11);
            check.due("clearTable()", x.clearTable(), 10);
        }
    }

    private static void fourColumns(Check check) {
        DraftSurvey x = Ships.withRows("7,1,2,-3,4", "8,50,60,70,80");
        long[][] due = {{1, 2, -3, 4}, {50, 60, 70, 80}};
        for (int row = 0; row < 2; row++) {
            check.due("rowDraft(" + row + ")", x.rowDraft(row), 7 + row);
            for (int column = 0; column < 4; column++) {
                check.due("tableValue(" + column + ")", x.tableValue(column, 7 + row), due[row][column]);
            }
        }
        check.due("tableValue(4, 7)", x.tableValue(4, 7), DraftSurvey.NO_SUCH_ITEM);
        check.due("tableValue(-1, 7)", x.tableValue(-1, 7), DraftSurvey.NO_SUCH_ITEM);
    }

    private static void addsTo(Check check, String first, String next, long answer) {
        DraftSurvey x = Ships.withRows(first);
        Ships.type(x, next);
        check.due("addRow() of " + next + " behind " + first, x.addRow(), answer);
    }

    private static void draftsIncrease(Check check) {
        addsTo(check, "500,100,1,1,1", "501,100,1,1,1", 2);
        addsTo(check, "500,100,1,1,1", "500,100,1,1,1", DraftSurvey.NOT_ASCENDING);
        addsTo(check, "500,100,1,1,1", "500,9999999,1,1,1", DraftSurvey.NOT_ASCENDING);
        addsTo(check, "500,100,1,1,1", "499,200,1,1,1", DraftSurvey.NOT_ASCENDING);
        addsTo(check, "500,100,1,1,1", "0,200,1,1,1", DraftSurvey.NOT_ASCENDING);
        addsTo(check, "0,0,1,1,1", "0,0,1,1,1", DraftSurvey.NOT_ASCENDING);
        addsTo(check, "0,0,1,1,1", "1,0,1,1,1", 2);
        addsTo(check, "29999,0,1,1,1", "30000,0,1,1,1", 2);
        addsTo(check, "30000,0,1,1,1", "30000,1,1,1,1", DraftSurvey.NOT_ASCENDING);
    }

    private static void displacementsNeverDecrease(Check check) {
        addsTo(check, "500,100,1,1,1", "501,101,1,1,1", 2);
        addsTo(check, "500,100,1,1,1", "501,100,1,1,1", 2);
        addsTo(check, "500,100,1,1,1", "501,99,1,1,1", DraftSurvey.NOT_ASCENDING);
        addsTo(check, "500,100,1,1,1", "30000,0,1,1,1", DraftSurvey.NOT_ASCENDING);
        addsTo(check, "500,0,1,1,1", "501,0,1,1,1", 2);
        addsTo(check, "500,9999999,1,1,1", "501,9999999,1,1,1", 2);
        addsTo(check, "500,9999999,1,1,1", "501,9999998,1,1,1", DraftSurvey.NOT_ASCENDING);
        // the other columns may fall
        addsTo(check, "500,100,9,9,9", "501,100,0,-9,0", 2);
    }

    private static void covers(Check check, DraftSurvey x, int draft, boolean isCovered) {
        for (int column = 0; column < 4; column++) {
            check.due("tableValue(" + column + ", " + draft + ") is covered",
                x.tableValue(column, draft) == NOT_COVERED ? 0 : 1, isCovered ? 1 : 0);
        }
    }

    private static void coveredByOneRow(Check check) {
        int[] drafts = {MIN, -1, 0, 1, 499, 500, 501, 30000, 30001, MAX};
        DraftSurvey none = new DraftSurvey();
        DraftSurvey one = Ships.withRows("500,1,1,1,1");
        DraftSurvey cleared = Ships.withTenRows();
        cleared.clearTable();
        for (int draft : drafts) {
            covers(check, none, draft, false);
            covers(check, one, draft, draft == 500);
            covers(check, cleared, draft, false);
        }
        DraftSurvey zero = Ships.withRows("0,0,0,0,0");
        covers(check, zero, 0, true);
        covers(check, zero, 1, false);
        covers(check, zero, -1, false);
    }

    private static void coveredBothIncluded(Check check) {
        int[] drafts = {MIN, -1, 0, 9, 10, 11, 20, 99, 100, 101, 30000, MAX};
        DraftSurvey ten = Ships.withTenRows();
        for (int draft : drafts) {
            covers(check, ten, draft, 10 <= draft && draft <= 100);
        }
        DraftSurvey two = Ships.withRows("0,0,0,0,0", "30000,0,0,0,0");
        int[] ends = {MIN, -1, 0, 1, 29999, 30000, 30001, MAX};
        for (int draft : ends) {
            covers(check, two, draft, 0 <= draft && draft <= 30000);
        }
    }

    private static void valueInRow(Check check) {
        String[] rows = {"0,5,1,-7,9", "1,5,20000,100000,0", "2,6,0,-100000,200000", "9,7,3,0,1", "10,8,1,1,1",
            "20,8,2,-2,2", "21,9,3,3,3", "29000,9,4,-4,4", "29999,10,5,5,5", "30000,9999999,6,-6,6"};
        DraftSurvey x = Ships.withRows(rows);
        for (String row : rows) {
            String[] numbers = row.split(",");
            for (int column = 0; column < 4; column++) {
                check.due("tableValue(" + column + ", " + numbers[0] + ")",
                    x.tableValue(column, Integer.parseInt(numbers[0])), Long.parseLong(numbers[column + 1]));
            }
        }
    }

    /** Each of the nine gaps between ten rows rises by its own step. */
    private static void rowsOnEitherSide(Check check) {
        DraftSurvey x = new DraftSurvey();
        long[] values = new long[10];
        for (int row = 0; row < 10; row++) {
            values[row] = row == 0 ? 1000 : values[row - 1] + 1000 * row;
            Ships.row(x, 100 * row + "," + values[row] + ",1," + -values[row] + ",1");
        }
        for (int draft = 1; draft < 900; draft += draft % 100 == 1 ? 49 : draft % 100 == 50 ? 49 : 2) {
            int row = draft / 100;
            long due = values[row] + 10L * (row + 1) * (draft % 100);
            check.due("tableValue(0, " + draft + ")", x.tableValue(0, draft), due);
            check.due("tableValue(2, " + draft + ")", x.tableValue(2, draft), -due);
        }
    }

    private static void interpolated(Check check) {
        String[] ends = {"100,50,7,-13,200", "107,59,1,12,100"};
        DraftSurvey x = Ships.withRows(ends);
        int[][] due = {
            {50, 51, 52, 53, 55, 56, 57, 59},
            {7, 6, 5, 4, 3, 2, 1, 1},
            {-13, -10, -6, -3, 1, 4, 8, 12},
            {200, 185, 171, 157, 142, 128, 114, 100}};
        for (int column = 0; column < 4; column++) {
            for (int step = 0; step <= 7; step++) {
                check.due("tableValue(" + column + ", " + (100 + step) + ")", x.tableValue(column, 100 + step),
                    due[column][step]);
            }
        }
    }

    private static void fourSurveys(Check check) {
        DraftSurvey x = Ships.laden();
        for (int survey = 0; survey < 4; survey++) {
            long[] answers = {x.reading(survey, 0), x.setReading(survey, 0, 5500), x.setDensity(survey, 1000),
                x.setDeduction(survey, 0, 1), x.trim(survey) + 30000, x.deflection(survey) + 30000,
                x.heel(survey) + 30000, x.quarterMean(survey), x.firstCorrection(survey) + 1000000,
                x.secondCorrection(survey) + 1000000, x.displacement(survey, 0), x.netWeight(survey)};
            for (int i = 0; i < answers.length; i++) {
                check.due("answer " + i + " of survey " + survey + " is one", answers[i] >= 0 ? 1 : 0, 1);
            }
        }
        for (int survey = -300; survey <= 300; survey++) {
            long due = survey >= 0 && survey <= 3 ? 0 : NO_SUCH_SURVEY;
            check.due("reading(" + survey + ", 0)", new DraftSurvey().reading(survey, 0), due);
            check.due("heel(" + survey + ")", new DraftSurvey().heel(survey), due);
        }
        for (int survey : Ships.NO_SURVEYS) {
            long[] answers = {x.reading(survey, 0), x.setReading(survey, 0, 5500), x.setDensity(survey, 1000),
                x.setDeduction(survey, 0, 1), x.trim(survey), x.deflection(survey), x.heel(survey),
                x.quarterMean(survey), x.firstCorrection(survey), x.secondCorrection(survey),
                x.displacement(survey, 0), x.netWeight(survey), x.cargo(survey, 0), x.cargo(0, survey),
                x.cargoLow(survey, 0), x.cargoLow(0, survey), x.cargoHigh(survey, 0), x.cargoHigh(0, survey)};
            for (int i = 0; i < answers.length; i++) {
                check.due("answer " + i + " of survey " + survey, answers[i], NO_SUCH_SURVEY);
            }
        }
    }

    private static void sixReadings(Check check) {
        // a reading of 800 at each mark alone: trim, deflection, heel, quarter mean
        int[][] due = {{-400, -200, 0, 50}, {-400, -200, 0, 50}, {0, 400, -800, 300}, {0, 400, 800, 300},
            {400, -200, 0, 50}, {400, -200, 0, 50}};
        for (int mark = 0; mark < 6; mark++) {
            for (int survey = 0; survey < 4; survey++) {
                DraftSurvey x = new DraftSurvey();
                x.setReading(survey, mark, 800);
                String at = "(" + survey + ") with the mark " + mark;
                check.due("trim" + at, x.trim(survey), due[mark][0]);
                check.due("deflection" + at, x.deflection(survey), due[mark][1]);
                check.due("heel" + at, x.heel(survey), due[mark][2]);
                check.due("quarterMean" + at, x.quarterMean(survey), due[mark][3]);
                for (int other = 0; other < 6; other++) {
                    check.due("reading of " + other + at, x.reading(survey, other), other == mark ? 800 : 0);
                }
            }
        }
    }

    private static void densityAndDeductions(Check check) {
        for (int survey = 0; survey < 4; survey++) {
            DraftSurvey x = Ships.withRows("0,41000,0,0,0");
            for (int kind = 0; kind < 4; kind++) {
                x.setDeduction(survey, kind, 1 << kind);
                check.due("netWeight with the kind " + kind, x.netWeight(survey), 41000 + 1 - (2 << kind));
            }
            x.setDensity(survey, 1000);
            for (int other = 0; other < 4; other++) {
                check.due("netWeight(" + other + ") with " + survey + " set", x.netWeight(other),
                    other == survey ? 40000 - 15 : 41000);
            }
        }
    }

    private static void atFirst(Check check) {
        DraftSurvey x = new DraftSurvey();
        for (int survey = 0; survey < 4; survey++) {
            for (int mark = 0; mark < 6; mark++) {
                check.due("reading(" + survey + ", " + mark + ")", x.reading(survey, mark), 0);
            }
        }
        Ships.row(x, "0,1234567,0,0,0");
        for (int survey = 0; survey < 4; survey++) {
            check.due("netWeight(" + survey + ")", x.netWeight(survey), 1234567);
            check.due("setDensity(" + survey + ", 1000)", x.setDensity(survey, 1000), 1025);
            for (int kind = 0; kind < 4; kind++) {
                check.due("setDeduction(" + survey + ", " + kind + ", 1)", x.setDeduction(survey, kind, 1), 0);
            }
        }
    }

    private static void halvedReadings(Check check) {
        int[][] pairs = {{0, 0, 0}, {0, 1, 0}, {1, 0, 0}, {1, 1, 1}, {1, 2, 1}, {2, 1, 1}, {3, 0, 1}, {0, 3, 1},
            {0, 30000, 15000}, {30000, 0, 15000}, {29999, 30000, 29999}, {30000, 29999, 29999}, {30000, 30000, 30000}};
        for (int[] pair : pairs) {
            DraftSurvey x = new DraftSurvey();
            String of = " of " + pair[0] + " and " + pair[1];
            Ships.readings(x, 0, pair[0], pair[1], 0, 0, 0, 0);
            check.due("the forward draft" + of, -x.trim(0), pair[2]);
            Ships.readings(x, 0, 0, 0, pair[0], pair[1], 0, 0);
            check.due("the midship draft" + of, x.deflection(0), pair[2]);
            Ships.readings(x, 0, 0, 0, 0, 0, pair[0], pair[1]);
            check.due("the aft draft" + of, x.trim(0), pair[2]);
        }
    }

    private static void trim(Check check) {
        int[][] drafts = {{0, 0}, {0, 1}, {1, 0}, {5000, 7000}, {7000, 5000}, {0, 30000}, {30000, 0}, {30000, 30000}};
        for (int[] pair : drafts) {
            DraftSurvey x = new DraftSurvey();
            Ships.drafts(x, 2, pair[0], 9000, pair[1]);
            check.due("trim(2) of " + pair[0] + " and " + pair[1], x.trim(2), pair[1] - pair[0]);
        }
    }

    private static void quarterMean(Check check) {
        DraftSurvey x = new DraftSurvey();
        int[][] due = {{0, 0, 0, 0}, {7, 0, 0, 0}, {0, 0, 7, 0}, {8, 0, 0, 1}, {0, 0, 8, 1}, {4, 0, 4, 1}, {3, 0, 4, 0},
            {15, 0, 0, 1}, {16, 0, 0, 2}, {0, 1, 0, 0}, {0, 1, 1, 0}, {1, 1, 1, 1}, {0, 1, 2, 1}, {0, 2, 3, 1},
            {0, 2, 4, 2}, {30000, 30000, 30000, 30000}, {30000, 30000, 29999, 29999}, {29999, 30000, 30000, 29999},
            {30000, 0, 0, 3750}, {0, 30000, 0, 22500}, {0, 0, 30000, 3750}};
        for (int[] one : due) {
            Ships.drafts(x, 1, one[0], one[1], one[2]);
            check.due("quarterMean(1) of " + one[0] + ", " + one[1] + ", " + one[2], x.quarterMean(1), one[3]);
        }
        // F, M and A are rounded first: of the readings 3 and 4 the 3 counts
        int[][] odd = {{0, 0, 1, 2, 0, 0, 0}, {0, 0, 3, 4, 0, 0, 2}, {3, 4, 0, 0, 4, 5, 0}, {4, 5, 0, 0, 4, 5, 1},
            {3, 4, 3, 4, 3, 4, 3}, {4, 5, 4, 4, 4, 4, 4}, {4, 4, 3, 4, 4, 4, 3}};
        for (int[] one : odd) {
            Ships.readings(x, 2, one[0], one[1], one[2], one[3], one[4], one[5]);
            check.due("quarterMean(2) of " + Arrays.toString(one), x.quarterMean(2), one[6]);
        }
    }

    private static void firstCorrection(Check check) {
        DraftSurvey x = Ships.withRows("1000,5000,100,1000,0", "2000,5000,300,3000,0", "3000,5000,300,-1000,0");
        // TPC and LCF: 100 and 1000, 200 and 2000, 220 and 2200, 300 and 3000, 300 and 0, 300 and -1000
        int[] drafts = {1000, 1500, 1600, 2000, 2750, 3000};
        int[] ahead = {-10, -40, -49, -90, 0, 30};
        int[] astern = {10, 40, 48, 90, 0, -30};
        x.setLength(10000);
        for (int i = 0; i < drafts.length; i++) {
            Ships.floating(x, 0, drafts[i], -100);
            check.due("firstCorrection(0) by the head at " + drafts[i], x.firstCorrection(0), ahead[i]);
            Ships.floating(x, 0, drafts[i], 100);
            check.due("firstCorrection(0) by the stern at " + drafts[i], x.firstCorrection(0), astern[i]);
            Ships.floating(x, 0, drafts[i], 0);
            check.due("firstCorrection(0) on an even keel at " + drafts[i], x.firstCorrection(0), 0);
        }
        Ships.floating(x, 0, 2000, 100);
        x.setLength(400000);
        check.due("firstCorrection(0) with the greatest length", x.firstCorrection(0), 2);
        Ships.floating(x, 0, 2000, -100);
        check.due("firstCorrection(0) by the head with the greatest length", x.firstCorrection(0), -3);
    }

    private static void secondCorrection(Check check) {
        // MTC is the draft up to 6000, and falls twice as fast behind it
        DraftSurvey x = Ships.withRows("2000,0,0,0,2000", "6000,0,0,0,6000", "8000,0,0,0,2000");
        x.setLength(10000);
        int[] drafts = {4000, 5500, 5700, 6000, 6200, 6500, 7000};
        int[] due = {5000, 5000, 2000, -2500, -5500, -10000, -10000};
        for (int i = 0; i < drafts.length; i++) {
            Ships.floating(x, 0, drafts[i], 1000);
            check.due("secondCorrection(0) by the stern at " + drafts[i], x.secondCorrection(0), due[i]);
            Ships.floating(x, 0, drafts[i], -1000);
            check.due("secondCorrection(0) by the head at " + drafts[i], x.secondCorrection(0), due[i]);
            Ships.floating(x, 0, drafts[i], 0);
            check.due("secondCorrection(0) on an even keel at " + drafts[i], x.secondCorrection(0), 0);
        }
        Ships.floating(x, 0, 4000, 1000);
        x.setLength(400000);
        check.due("secondCorrection(0) with the greatest length", x.secondCorrection(0), 125);
        Ships.floating(x, 0, 4000, 3);
        check.due("secondCorrection(0) of a small trim", x.secondCorrection(0), 0);
    }

    /** With a trim of 1000 and the least length the second correction is five times the change of MTC. */
    private static void changeOfMtc(Check check, DraftSurvey x, int quarterMean, int change) {
        x.setLength(10000);
        Ships.floating(x, 0, quarterMean, 1000);
        check.due("secondCorrection(0) at " + quarterMean, x.secondCorrection(0), 5 * change);
    }

    private static void keptFromFirstRow(Check check) {
        String[] rows = {"2000,0,0,0,2000", "2200,0,0,0,2200", "9000,0,0,0,9000"};
        int[] drafts = {2000, 2001, 2499, 2500, 2501, 3000};
        int[] changes = {500, 501, 999, 1000, 1000, 1000};
        for (int i = 0; i < drafts.length; i++) {
            changeOfMtc(check, Ships.withRows(rows), drafts[i], changes[i]);
        }
        // one row, and a table that is shorter than 500: both drafts are kept within it
        changeOfMtc(check, Ships.withRows("2000,0,0,0,200000"), 2000, 0);
        changeOfMtc(check, Ships.withRows("2000,0,0,0,7", "2300,0,0,0,17"), 2100, 10);
        // a draft of exactly 0 for Q1
        DraftSurvey x = Ships.withRows("0,0,0,0,0", "9000,0,0,0,9000");
        changeOfMtc(check, x, 500, 1000);
        changeOfMtc(check, x, 499, 999);
        changeOfMtc(check, x, 501, 1000);
    }

    private static void keptFromLastRow(Check check) {
        String[] rows = {"2000,0,0,0,2000", "8800,0,0,0,8800", "9000,0,0,0,9000"};
        int[] drafts = {9000, 8999, 8501, 8500, 8499, 8000};
        int[] changes = {500, 501, 999, 1000, 1000, 1000};
        for (int i = 0; i < drafts.length; i++) {
            changeOfMtc(check, Ships.withRows(rows), drafts[i], changes[i]);
        }
        changeOfMtc(check, Ships.withRows("2000,0,0,0,17", "2300,0,0,0,7"), 2300, -10);
        changeOfMtc(check, Ships.withRows("2000,0,0,0,17", "2900,0,0,0,917"), 2450, 900);
        changeOfMtc(check, Ships.withRows("2000,0,0,0,17", "2900,0,0,0,917"), 2400, 900);
        changeOfMtc(check, Ships.withRows("2000,0,0,0,17", "2900,0,0,0,917"), 2399, 899);
        changeOfMtc(check, Ships.withRows("2000,0,0,0,17", "2900,0,0,0,917"), 2501, 899);
        DraftSurvey x = Ships.withRows("2000,0,0,0,2000", "30000,0,0,0,30000");
        changeOfMtc(check, x, 29500, 1000);
        changeOfMtc(check, x, 29501, 999);
    }

    /** Column 0 is ten times the draft, the first correction the trim, the second a half of it. */
    private static DraftSurvey withPlainFigures() {
        DraftSurvey x = Ships.withRows("1000,10000,1000,1000,0", "3000,30000,1000,1000,2000");
        x.setLength(10000);
        return x;
    }

    private static void displacement(Check check) {
        DraftSurvey x = withPlainFigures();
        int[] densities = {1025, 1000, 950, 1050, 1024, 1026};
        int[] astern = {20150, 19658, 18675, 20641, 20130, 20169};
        int[] ahead = {19950, 19463, 18490, 20436, 19930, 19969};
        for (int i = 0; i < densities.length; i++) {
            x.setDensity(0, densities[i]);
            Ships.floating(x, 0, 2000, 100);
            check.due("displacement(0, 0) by the stern in " + densities[i], x.displacement(0, 0), astern[i]);
            Ships.floating(x, 0, 2000, -100);
            check.due("displacement(0, 0) by the head in " + densities[i], x.displacement(0, 0), ahead[i]);
        }
        x.setDensity(0, 1025);
        Ships.floating(x, 0, 2000, 0);
        check.due("displacement(0, 0) on an even keel", x.displacement(0, 0), 20000);
    }

    private static void netWeight(Check check) {
        DraftSurvey x = withPlainFigures();
        Ships.floating(x, 0, 2000, 100);
        check.due("netWeight(0) without deductions", x.netWeight(0), 20150);
        x.setDensity(0, 1000);
        check.due("netWeight(0) in fresh water", x.netWeight(0), 19658);
        int[] weights = {1, 9999999, 10000, 0};
        long due = 19658;
        for (int kind = 0; kind < 4; kind++) {
            x.setDeduction(0, kind, weights[kind]);
            due -= weights[kind];
            check.due("netWeight(0) up to the deduction " + kind, x.netWeight(0), due);
        }
        for (int kind = 0; kind < 4; kind++) {
            x.setDeduction(0, kind, kind == 3 ? 19658 : 0);
        }
        check.due("netWeight(0) of nothing", x.netWeight(0), 0);
        x.setDeduction(0, 0, 1);
        check.due("netWeight(0) below nothing", x.netWeight(0), -1);
    }

    private static void computed(Check check, DraftSurvey x, boolean isComputed) {
        long[] answers = {x.firstCorrection(0), x.secondCorrection(0), x.displacement(0, 0), x.netWeight(0),
            x.cargo(0, 0), x.cargoLow(0, 0), x.cargoHigh(0, 0), x.heaviest()};
        for (int i = 0; i < answers.length; i++) {
            check.due("answer " + i + " at " + x.quarterMean(0) + " is one", answers[i] == NOT_COVERED ? 0 : 1,
                isComputed ? 1 : 0);
        }
    }

    private static void canBeComputed(Check check) {
        int[] drafts = {0, 999, 1000, 1001, 2999, 3000, 3001, 30000};
        for (int draft : drafts) {
            DraftSurvey x = withPlainFigures();
            Ships.level(x, 0, draft);
            computed(check, x, 1000 <= draft && draft <= 3000);
            x.clearTable();
            computed(check, x, false);
        }
        // F and A may be where the table does not reach
        DraftSurvey x = withPlainFigures();
        Ships.drafts(x, 0, 0, 1000, 10000);
        computed(check, x, true);
        Ships.drafts(x, 0, 0, 1333, 0);
        computed(check, x, false);
        Ships.drafts(x, 0, 0, 1334, 0);
        computed(check, x, true);
        DraftSurvey one = Ships.withRows("2,1,1,1,1");
        Ships.level(one, 0, 2);
        computed(check, one, true);
        one.setReading(0, 5, 18);
        computed(check, one, false);
    }

    private static void shifted(Check check) {
        int[] shifts = {-1000, -999, -500, -1, 0, 1, 500, 999, 1000};
        int[] readings = {1900, 1931, 2000, 2003, 2077, 2090};
        for (int shift : shifts) {
            DraftSurvey x = withPlainFigures();
            Ships.readings(x, 0, readings);
            for (int mark = 0; mark < 6; mark++) {
                x.setReading(1, mark, readings[mark] + shift);
            }
            for (int survey = 0; survey < 2; survey++) {
                x.setDensity(survey, 1000);
                x.setDeduction(survey, 0, 77);
            }
            check.due("displacement(0, " + shift + ")", x.displacement(0, shift), x.displacement(1, 0));
            check.due("trim(0)", x.trim(0), x.trim(1));
            for (int mark = 0; mark < 6; mark++) {
                check.due("reading(0, " + mark + ")", x.reading(0, mark), readings[mark]);
            }
        }
        // the shift of Q is just the shift: the table's drafts 1000 and 3000 are met exactly
        DraftSurvey x = withPlainFigures();
        Ships.floating(x, 0, 2000, 0);
        check.due("displacement(0, -1000)", x.displacement(0, -1000), 10000);
        check.due("displacement(0, 1000)", x.displacement(0, 1000), 30000);
        Ships.floating(x, 0, 1999, 0);
        check.due("displacement(0, -1000) at 1999", x.displacement(0, -1000), NOT_COVERED);
        Ships.floating(x, 0, 2001, 0);
        check.due("displacement(0, 1000) at 2001", x.displacement(0, 1000), NOT_COVERED);
    }

    private static void shiftedBelowZero(Check check) {
        DraftSurvey x = Ships.withRows("0,0,20000,100000,0", "30000,30000,20000,100000,0");
        x.setLength(10000);
        // shifted by -1: F is the half of -1, rounded down, just as A, so that there is no trim
        Ships.readings(x, 0, 0, 1, 1000, 1000, 0, 0);
        check.due("displacement(0, -1)", x.displacement(0, -1), 749);
        Ships.readings(x, 0, 0, 0, 1000, 1000, 0, 1);
        check.due("displacement(0, -1) with 1 aft", x.displacement(0, -1), 749);
        Ships.readings(x, 0, 0, 0, 2000, 2000, 0, 0);
        check.due("displacement(0, -1000)", x.displacement(0, -1000), 500);
        // Q itself below 0: F + 6 * M + A is -8 to -1 then, never covered
        for (int sum = 0; sum < 8; sum++) {
            Ships.drafts(x, 1, sum, 0, 0);
            check.due("displacement(1, 0) with F " + sum, x.displacement(1, 0), -2000 * sum);
            check.due("displacement(1, -1) with F " + sum, x.displacement(1, -1), NOT_COVERED);
        }
        Ships.drafts(x, 1, 8, 0, 0);
        check.due("displacement(1, -1) with F 8", x.displacement(1, -1), -16000);
        // above 30000, too, a shifted reading may be
        Ships.drafts(x, 2, 30000, 20000, 30000);
        check.due("displacement(2, 1000)", x.displacement(2, 1000), 23500);
        Ships.level(x, 2, 30000);
        check.due("displacement(2, 1) at 30000", x.displacement(2, 1), NOT_COVERED);
    }
}
