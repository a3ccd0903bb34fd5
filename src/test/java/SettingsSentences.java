/** Promises 9 to 14: the length, the margin, the readings, the densities and the deductions. */
final class SettingsSentences {
    private static final long NO_SUCH_SURVEY = DraftSurvey.NO_SUCH_SURVEY;
    private static final long NO_SUCH_ITEM = DraftSurvey.NO_SUCH_ITEM;
    private static final long OUT_OF_RANGE = DraftSurvey.OUT_OF_RANGE;
    private static final int MIN = Ships.MIN;
    private static final int MAX = Ships.MAX;
    private static final int[] NO_MARKS = {-1, 6, 7, -6, MIN, MAX};
    private static final int[] NO_KINDS = {-1, 4, 5, -4, MIN, MAX};
    private static final int[] NO_DRAFTS = {-1, 30001, 40000, MIN, MAX};
    private static final int[] NO_DENSITIES = {949, 1051, 0, -1025, MIN, MAX};
    private static final int[] NO_WEIGHTS = {-1, 10000000, -9999999, MIN, MAX};

    private SettingsSentences() {
    }

    static void all(Sentences s) {
        s.section("Promise 9: setLength");
        s.holds("Sets the length between perpendiculars.", SettingsSentences::lengthSet);
        s.holds("- `length`: 10000 to 400000", SettingsSentences::lengths);
        s.holds("Returns the previous length;", SettingsSentences::previousLength);
        s.holds("OUT_OF_RANGE if length is out of range.", SettingsSentences::lengthOutOfRange);
        s.section("Promise 10: setMargin");
        s.holds("Sets the error margin of a reading.", SettingsSentences::marginSet);
        s.holds("- `margin`: 0 to 100", SettingsSentences::margins);
        s.holds("Returns the previous margin;", SettingsSentences::previousMargin);
        s.holds("OUT_OF_RANGE if margin is out of range.", SettingsSentences::marginOutOfRange);
        readings(s);
        densities(s);
        deductions(s);
    }

    private static void readings(Sentences s) {
        s.section("Promise 11: setReading");
        s.holds("Sets a draft reading.", SettingsSentences::readingSet);
        s.holds("- `survey`: survey number - `mark`: 0 to 5", SettingsSentences::marks);
        s.holds("- `draft`: 0 to 30000", SettingsSentences::drafts);
        s.holds("Returns the previous reading;", SettingsSentences::previousReading);
        s.holds("NO_SUCH_SURVEY;", SettingsSentences::setReadingOfNoSurvey);
        s.holds("NO_SUCH_ITEM if the mark does not exist;", SettingsSentences::setReadingOfNoMark);
        s.holds("OUT_OF_RANGE if draft is out of range.", SettingsSentences::draftOutOfRange);
        s.section("Promise 12: reading");
        s.holds("Returns a draft reading.", SettingsSentences::readingReturned);
        s.holds("- `survey`: survey number - `mark`: 0 to 5", SettingsSentences::marksRead);
        s.onlyNames("Returns the reading;");
        s.holds("NO_SUCH_SURVEY;", SettingsSentences::readingOfNoSurvey);
        s.holds("NO_SUCH_ITEM if the mark does not exist.", SettingsSentences::readingOfNoMark);
    }

    private static void densities(Sentences s) {
        s.section("Promise 13: setDensity");
        s.holds("Sets the water density of a survey.", SettingsSentences::densitySet);
        s.onlyNames("- `survey`: survey number");
        s.holds("- `density`: 950 to 1050", SettingsSentences::densityRange);
        s.holds("Returns the previous density;", SettingsSentences::previousDensity);
        s.holds("NO_SUCH_SURVEY;", SettingsSentences::densityOfNoSurvey);
        s.holds("OUT_OF_RANGE if density is out of range.", SettingsSentences::densityOutOfRange);
    }

    private static void deductions(Sentences s) {
        s.section("Promise 14: setDeduction");
        s.holds("Sets a deduction of a survey.", SettingsSentences::deductionSet);
        s.holds("- `survey`: survey number - `kind`: 0 to 3", SettingsSentences::kinds);
        s.holds("- `weight`: 0 to 9999999", SettingsSentences::weights);
        s.holds("Returns the previous weight;", SettingsSentences::previousWeight);
        s.holds("NO_SUCH_SURVEY;", SettingsSentences::deductionOfNoSurvey);
        s.holds("NO_SUCH_ITEM if the kind does not exist;", SettingsSentences::deductionOfNoKind);
        s.holds("OUT_OF_RANGE if weight is out of range.", SettingsSentences::weightOutOfRange);
    }

    private static void lengthSet(Check check) {
        DraftSurvey x = Ships.withRows("3000,0,4000,100000,0");
        Ships.floating(x, 0, 3000, 100);
        // 100 * 4000 * 100000 / (100 * length)
        int[][] due = {{10000, 40000}, {400000, 1000}, {200000, 2000}, {180000, 2222}, {399999, 1000}, {10001, 39996}};
        for (int[] one : due) {
            check.due("setLength(" + one[0] + ") is taken", x.setLength(one[0]) > 0 ? 1 : 0, 1);
            check.due("firstCorrection(0) with the length " + one[0], x.firstCorrection(0), one[1]);
        }
        DraftSurvey y = new DraftSurvey();
        long before = y.digest();
        y.setLength(180001);
        check.due("digest() with a length greater by 1", y.digest(), before + 31 * 31);
    }

    private static void lengths(Check check) {
        int[] lengths = {10000, 10001, 180000, 399999, 400000};
        for (int length : lengths) {
            DraftSurvey x = new DraftSurvey();
            check.due("setLength(" + length + ")", x.setLength(length), 180000);
            check.due("setLength() behind it", x.setLength(200000), length);
        }
    }

    private static void previousLength(Check check) {
        DraftSurvey x = new DraftSurvey();
        long previous = 180000;
        int[] lengths = {400000, 10000, 10000, 250000, 180000, 180000};
        for (int length : lengths) {
            check.due("setLength(" + length + ")", x.setLength(length), previous);
            check.due("setLength(0)", x.setLength(0), OUT_OF_RANGE);
            previous = length;
        }
    }

    private static void lengthOutOfRange(Check check) {
        for (int length = 9000; length <= 401000; length += length == 11000 ? 388000 : 1) {
            boolean isTaken = length >= 10000 && length <= 400000;
            check.due("setLength(" + length + ")", new DraftSurvey().setLength(length),
                isTaken ? 180000 : OUT_OF_RANGE);
        }
        int[] lengths = {9999, 400001, 0, -1, -10000, -180000, 1000000, MIN, MAX};
        for (int length : lengths) {
            Ships.refused(check, "setLength(" + length + ")", Ships::laden, x -> x.setLength(length), OUT_OF_RANGE);
            DraftSurvey x = new DraftSurvey();
            check.due("setLength(" + length + ")", x.setLength(length), OUT_OF_RANGE);
            check.due("setLength(10000) behind it", x.setLength(10000), 180000);
        }
    }

    private static void marginSet(Check check) {
        DraftSurvey x = Ships.withRows("1000,10000,0,0,0", "3000,30000,0,0,0");
        Ships.floating(x, 0, 2000, 0);
        int[] margins = {0, 1, 7, 99, 100, 0};
        for (int margin : margins) {
            check.due("setMargin(" + margin + ") is taken", x.setMargin(margin) >= 0 ? 1 : 0, 1);
            check.due("cargoLow(0, 0) with the margin " + margin, x.cargoLow(0, 0), -20 * margin);
            check.due("cargoHigh(0, 0) with the margin " + margin, x.cargoHigh(0, 0), 20 * margin);
            check.due("cargo(0, 0) with the margin " + margin, x.cargo(0, 0), 0);
            check.due("netWeight(0) with the margin " + margin, x.netWeight(0), 20000);
            check.due("displacement(0, 0) with the margin " + margin, x.displacement(0, 0), 20000);
            check.due("quarterMean(0) with the margin " + margin, x.quarterMean(0), 2000);
            check.due("reading(0, 0) with the margin " + margin, x.reading(0, 0), 2000);
        }
        DraftSurvey y = new DraftSurvey();
        long before = y.digest();
        y.setMargin(1);
        check.due("digest() with a margin greater by 1", y.digest(), before + 31);
    }

    private static void margins(Check check) {
        int[] margins = {0, 1, 50, 99, 100};
        for (int margin : margins) {
            DraftSurvey x = new DraftSurvey();
            check.due("setMargin(" + margin + ")", x.setMargin(margin), 0);
            check.due("setMargin() behind it", x.setMargin(3), margin);
        }
    }

    private static void previousMargin(Check check) {
        DraftSurvey x = new DraftSurvey();
        long previous = 0;
        int[] margins = {100, 100, 0, 0, 1, 99, 5};
        for (int margin : margins) {
            check.due("setMargin(" + margin + ")", x.setMargin(margin), previous);
            check.due("setMargin(101)", x.setMargin(101), OUT_OF_RANGE);
            previous = margin;
        }
    }

    private static void marginOutOfRange(Check check) {
        for (int margin = -1100; margin <= 1100; margin++) {
            check.due("setMargin(" + margin + ")", new DraftSurvey().setMargin(margin),
                margin >= 0 && margin <= 100 ? 0 : OUT_OF_RANGE);
        }
        int[] margins = {-1, 101, -100, 1000, 256, MIN, MAX};
        for (int margin : margins) {
            Ships.refused(check, "setMargin(" + margin + ")", Ships::laden, x -> x.setMargin(margin), OUT_OF_RANGE);
            DraftSurvey x = new DraftSurvey();
            check.due("setMargin(" + margin + ")", x.setMargin(margin), OUT_OF_RANGE);
            check.due("setMargin(10) behind it", x.setMargin(10), 0);
        }
    }

    /** Sets one reading of a laden ship and looks at all of them. */
    private static void readingSet(Check check) {
        for (int survey = 0; survey < 4; survey++) {
            for (int mark = 0; mark < 6; mark++) {
                DraftSurvey x = Ships.laden();
                DraftSurvey twin = Ships.laden();
                String call = "setReading(" + survey + ", " + mark + ", 1234)";
                check.due(call, x.setReading(survey, mark, 1234), twin.reading(survey, mark));
                for (int other = 0; other < 24; other++) {
                    long due = other == 6 * survey + mark ? 1234 : twin.reading(other / 6, other % 6);
                    check.due("reading " + other + " behind " + call, x.reading(other / 6, other % 6), due);
                }
            }
        }
    }

    private static void marks(Check check) {
        DraftSurvey x = new DraftSurvey();
        for (int survey = 0; survey < 4; survey++) {
            for (int mark = 0; mark < 6; mark++) {
                check.due("setReading(" + survey + ", " + mark + ")", x.setReading(survey, mark, 7), 0);
            }
            check.due("setReading(" + survey + ", -1)", x.setReading(survey, -1, 7), NO_SUCH_ITEM);
            check.due("setReading(" + survey + ", 6)", x.setReading(survey, 6, 7), NO_SUCH_ITEM);
        }
        check.due("setReading(-1, 0)", x.setReading(-1, 0, 7), NO_SUCH_SURVEY);
        check.due("setReading(4, 0)", x.setReading(4, 0, 7), NO_SUCH_SURVEY);
    }

    private static void drafts(Check check) {
        int[] drafts = {0, 1, 15000, 29999, 30000};
        for (int mark = 0; mark < 6; mark++) {
            for (int draft : drafts) {
                DraftSurvey x = new DraftSurvey();
                check.due("setReading(3, " + mark + ", " + draft + ")", x.setReading(3, mark, draft), 0);
                check.due("reading(3, " + mark + ")", x.reading(3, mark), draft);
            }
        }
    }

    private static void previousReading(Check check) {
        DraftSurvey x = new DraftSurvey();
        int[] drafts = {30000, 0, 0, 17, 17, 29999};
        long previous = 0;
        for (int draft : drafts) {
            check.due("setReading(1, 4, " + draft + ")", x.setReading(1, 4, draft), previous);
            check.due("setReading(1, 4, 30001)", x.setReading(1, 4, 30001), OUT_OF_RANGE);
            previous = draft;
        }
    }

    private static void setReadingOfNoSurvey(Check check) {
        for (int survey : Ships.NO_SURVEYS) {
            for (int mark : new int[] {0, 5, -1, 6, MIN, MAX}) {
                for (int draft : new int[] {0, 30000, -1, 30001, MIN, MAX}) {
                    check.due("setReading(" + survey + ", " + mark + ", " + draft + ")",
                        new DraftSurvey().setReading(survey, mark, draft), NO_SUCH_SURVEY);
                }
            }
            Ships.refused(check, "setReading(" + survey + ", 0, 1)", Ships::laden, x -> x.setReading(survey, 0, 1),
                NO_SUCH_SURVEY);
        }
    }

    private static void setReadingOfNoMark(Check check) {
        for (int mark = -300; mark <= 300; mark++) {
            DraftSurvey x = new DraftSurvey();
            long due = mark >= 0 && mark <= 5 ? 0 : NO_SUCH_ITEM;
            check.due("reading(2, " + mark + ")", x.reading(2, mark), due);
            check.due("setReading(2, " + mark + ", 1)", x.setReading(2, mark, 1), due);
            check.due("setDeduction(2, " + mark + ", 1)", x.setDeduction(2, mark, 1),
                mark == 4 || mark == 5 ? NO_SUCH_ITEM : due);
        }
        for (int mark : NO_MARKS) {
            for (int draft : new int[] {0, 30000, -1, 30001, MIN, MAX}) {
                for (int survey = 0; survey < 4; survey++) {
                    check.due("setReading(" + survey + ", " + mark + ", " + draft + ")",
                        new DraftSurvey().setReading(survey, mark, draft), NO_SUCH_ITEM);
                }
            }
            Ships.refused(check, "setReading(1, " + mark + ", 1)", Ships::laden, x -> x.setReading(1, mark, 1),
                NO_SUCH_ITEM);
        }
    }

    private static void draftOutOfRange(Check check) {
        for (int draft = -1000; draft <= 31000; draft += draft == 1000 ? 28000 : 1) {
            check.due("setReading(0, 1, " + draft + ")", new DraftSurvey().setReading(0, 1, draft),
                draft >= 0 && draft <= 30000 ? 0 : OUT_OF_RANGE);
        }
        for (int draft : NO_DRAFTS) {
            for (int place = 0; place < 24; place++) {
                DraftSurvey x = new DraftSurvey();
                check.due("setReading of " + place + " to " + draft, x.setReading(place / 6, place % 6, draft),
                    OUT_OF_RANGE);
                check.due("reading of " + place, x.reading(place / 6, place % 6), 0);
            }
            Ships.refused(check, "setReading(3, 5, " + draft + ")", Ships::laden, x -> x.setReading(3, 5, draft),
                OUT_OF_RANGE);
        }
    }

    private static void readingReturned(Check check) {
        DraftSurvey x = new DraftSurvey();
        for (int place = 0; place < 24; place++) {
            x.setReading(place / 6, place % 6, 1250 * place + 1);
        }
        long before = x.digest();
        for (int place = 0; place < 24; place++) {
            check.due("reading of " + place, x.reading(place / 6, place % 6), 1250 * place + 1);
            check.due("reading again of " + place, x.reading(place / 6, place % 6), 1250 * place + 1);
        }
        check.due("digest() behind it", x.digest(), before);
    }

    private static void marksRead(Check check) {
        DraftSurvey x = new DraftSurvey();
        for (int survey = 0; survey < 4; survey++) {
            check.due("reading(" + survey + ", 0)", x.reading(survey, 0), 0);
            check.due("reading(" + survey + ", 5)", x.reading(survey, 5), 0);
            check.due("reading(" + survey + ", -1)", x.reading(survey, -1), NO_SUCH_ITEM);
            check.due("reading(" + survey + ", 6)", x.reading(survey, 6), NO_SUCH_ITEM);
        }
        check.due("reading(-1, 0)", x.reading(-1, 0), NO_SUCH_SURVEY);
        check.due("reading(4, 0)", x.reading(4, 0), NO_SUCH_SURVEY);
    }

    private static void readingOfNoSurvey(Check check) {
        for (int survey : Ships.NO_SURVEYS) {
            for (int mark : new int[] {0, 5, -1, 6, MIN, MAX}) {
                check.due("reading(" + survey + ", " + mark + ")", Ships.laden().reading(survey, mark),
                    NO_SUCH_SURVEY);
            }
        }
    }

    private static void readingOfNoMark(Check check) {
        for (int mark : NO_MARKS) {
            for (int survey = 0; survey < 4; survey++) {
                check.due("reading(" + survey + ", " + mark + ")", Ships.laden().reading(survey, mark), NO_SUCH_ITEM);
            }
        }
    }

    private static void densitySet(Check check) {
        int[][] due = {{950, 950000}, {1000, 1000000}, {1025, 1025000}, {1050, 1050000}, {951, 951000}, {1049, 1049000}};
        for (int survey = 0; survey < 4; survey++) {
            DraftSurvey x = Ships.withRows("0,1025000,0,0,0");
            for (int[] one : due) {
                check.due("setDensity(" + survey + ", " + one[0] + ") is taken",
                    x.setDensity(survey, one[0]) > 0 ? 1 : 0, 1);
                for (int other = 0; other < 4; other++) {
                    check.due("displacement(" + other + ", 0) with " + one[0], x.displacement(other, 0),
                        other == survey ? one[1] : 1025000);
                }
            }
        }
    }

    private static void densityRange(Check check) {
        for (int density = 950; density <= 1050; density++) {
            DraftSurvey x = new DraftSurvey();
            check.due("setDensity(2, " + density + ")", x.setDensity(2, density), 1025);
            check.due("setDensity() behind it", x.setDensity(2, 1000), density);
        }
    }

    private static void previousDensity(Check check) {
        DraftSurvey x = new DraftSurvey();
        int[] densities = {950, 1050, 1050, 1000, 950, 1025};
        long previous = 1025;
        for (int density : densities) {
            for (int survey = 0; survey < 4; survey++) {
                check.due("setDensity(" + survey + ", " + density + ")", x.setDensity(survey, density), previous);
                check.due("setDensity(" + survey + ", 949)", x.setDensity(survey, 949), OUT_OF_RANGE);
            }
            previous = density;
        }
    }

    private static void densityOfNoSurvey(Check check) {
        for (int survey : Ships.NO_SURVEYS) {
            for (int density : new int[] {950, 1050, 949, 1051, MIN, MAX}) {
                check.due("setDensity(" + survey + ", " + density + ")", new DraftSurvey().setDensity(survey, density),
                    NO_SUCH_SURVEY);
            }
            Ships.refused(check, "setDensity(" + survey + ", 1001)", Ships::laden, x -> x.setDensity(survey, 1001),
                NO_SUCH_SURVEY);
        }
    }

    private static void densityOutOfRange(Check check) {
        for (int density = -1100; density <= 2200; density++) {
            check.due("setDensity(0, " + density + ")", new DraftSurvey().setDensity(0, density),
                density >= 950 && density <= 1050 ? 1025 : OUT_OF_RANGE);
        }
        for (int density : NO_DENSITIES) {
            for (int survey = 0; survey < 4; survey++) {
                int of = survey;
                Ships.refused(check, "setDensity(" + of + ", " + density + ")", Ships::laden,
                    x -> x.setDensity(of, density), OUT_OF_RANGE);
                check.due("setDensity(" + of + ", " + density + ") without a table",
                    new DraftSurvey().setDensity(of, density), OUT_OF_RANGE);
            }
        }
    }

    private static void deductionSet(Check check) {
        for (int place = 0; place < 16; place++) {
            DraftSurvey x = Ships.laden();
            DraftSurvey twin = Ships.laden();
            long previous = twin.setDeduction(place / 4, place % 4, 5);
            check.due("setDeduction of " + place, x.setDeduction(place / 4, place % 4, 5000), previous);
            for (int survey = 0; survey < 4; survey++) {
                check.due("netWeight(" + survey + ")", x.netWeight(survey),
                    twin.netWeight(survey) - (survey == place / 4 ? 4995 : 0));
                check.due("displacement(" + survey + ", 0)", x.displacement(survey, 0), twin.displacement(survey, 0));
            }
            for (int other = 0; other < 16; other++) {
                long due = other == place ? 5000 : twin.setDeduction(other / 4, other % 4, 0);
                check.due("the deduction of " + other, x.setDeduction(other / 4, other % 4, 0), due);
            }
        }
    }

    private static void kinds(Check check) {
        DraftSurvey x = new DraftSurvey();
        for (int survey = 0; survey < 4; survey++) {
            for (int kind = 0; kind < 4; kind++) {
                check.due("setDeduction(" + survey + ", " + kind + ", 7)", x.setDeduction(survey, kind, 7), 0);
            }
            check.due("setDeduction(" + survey + ", -1, 7)", x.setDeduction(survey, -1, 7), NO_SUCH_ITEM);
            check.due("setDeduction(" + survey + ", 4, 7)", x.setDeduction(survey, 4, 7), NO_SUCH_ITEM);
        }
        check.due("setDeduction(-1, 0, 7)", x.setDeduction(-1, 0, 7), NO_SUCH_SURVEY);
        check.due("setDeduction(4, 0, 7)", x.setDeduction(4, 0, 7), NO_SUCH_SURVEY);
    }

    private static void weights(Check check) {
        int[] weights = {0, 1, 5000000, 9999998, 9999999};
        for (int kind = 0; kind < 4; kind++) {
            for (int weight : weights) {
                DraftSurvey x = Ships.withRows("0,3,0,0,0");
                check.due("setDeduction(1, " + kind + ", " + weight + ")", x.setDeduction(1, kind, weight), 0);
                check.due("netWeight(1) with " + weight, x.netWeight(1), 3 - weight);
                check.due("setDeduction() behind it", x.setDeduction(1, kind, 3), weight);
            }
        }
    }

    private static void previousWeight(Check check) {
        DraftSurvey x = new DraftSurvey();
        int[] weights = {9999999, 0, 0, 17, 17, 9999998};
        long previous = 0;
        for (int weight : weights) {
            check.due("setDeduction(2, 3, " + weight + ")", x.setDeduction(2, 3, weight), previous);
            check.due("setDeduction(2, 3, 10000000)", x.setDeduction(2, 3, 10000000), OUT_OF_RANGE);
            previous = weight;
        }
    }

    private static void deductionOfNoSurvey(Check check) {
        for (int survey : Ships.NO_SURVEYS) {
            for (int kind : new int[] {0, 3, -1, 4, MIN, MAX}) {
                for (int weight : new int[] {0, 9999999, -1, 10000000, MIN, MAX}) {
                    check.due("setDeduction(" + survey + ", " + kind + ", " + weight + ")",
                        new DraftSurvey().setDeduction(survey, kind, weight), NO_SUCH_SURVEY);
                }
            }
            Ships.refused(check, "setDeduction(" + survey + ", 0, 5)", Ships::laden, x -> x.setDeduction(survey, 0, 5),
                NO_SUCH_SURVEY);
        }
    }

    private static void deductionOfNoKind(Check check) {
        for (int kind : NO_KINDS) {
            for (int weight : new int[] {0, 9999999, -1, 10000000, MIN, MAX}) {
                for (int survey = 0; survey < 4; survey++) {
                    check.due("setDeduction(" + survey + ", " + kind + ", " + weight + ")",
                        new DraftSurvey().setDeduction(survey, kind, weight), NO_SUCH_ITEM);
                }
            }
            Ships.refused(check, "setDeduction(1, " + kind + ", 5)", Ships::laden, x -> x.setDeduction(1, kind, 5),
                NO_SUCH_ITEM);
        }
    }

    private static void weightOutOfRange(Check check) {
        for (int weight = -1000; weight <= 10001000; weight += weight == 1000 ? 9998000 : 1) {
            check.due("setDeduction(0, 1, " + weight + ")", new DraftSurvey().setDeduction(0, 1, weight),
                weight >= 0 && weight <= 9999999 ? 0 : OUT_OF_RANGE);
        }
        for (int weight : NO_WEIGHTS) {
            for (int place = 0; place < 16; place++) {
                DraftSurvey x = new DraftSurvey();
                check.due("setDeduction of " + place + " to " + weight, x.setDeduction(place / 4, place % 4, weight),
                    OUT_OF_RANGE);
                check.due("setDeduction behind it", x.setDeduction(place / 4, place % 4, 1), 0);
            }
            Ships.refused(check, "setDeduction(3, 3, " + weight + ")", Ships::laden, x -> x.setDeduction(3, 3, weight),
                OUT_OF_RANGE);
        }
    }
}
