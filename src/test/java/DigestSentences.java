import java.math.BigInteger;
import java.util.ArrayList;
import java.util.List;

/** Promise 29: the hash of the whole state. */
final class DigestSentences {
    private static final long NOT_COVERED = DraftSurvey.NOT_COVERED;
    private static final BigInteger LONGS = BigInteger.ONE.shiftLeft(64);

    private DigestSentences() {
    }

    static void all(Sentences s) {
        s.section("Promise 29: digest");
        s.holds("Computes a hash of the whole state.", DigestSentences::wholeState);
        s.holds("The hash starts at 1759.", DigestSentences::startsAt1759);
        s.holds("For each value v of the following list, in order, the hash becomes 31 * hash + v, in long arithmetic "
            + "with overflow.", DigestSentences::beyondLong);
        s.onlyNames("The values are:");
        s.holds("the number of rows; for each row its draft and its columns 0 to 3;", DigestSentences::rows);
        s.holds("for each survey its readings for marks 0 to 5, trim, deflection, heel, quarterMean, firstCorrection, "
            + "secondCorrection, displacement with shifts -500, 0 and 500, netWeight;", DigestSentences::surveys);
        s.holds("cargo, cargoLow and cargoHigh of surveys 0 and 1; heaviest;", DigestSentences::cargoes);
        s.holds("the length between perpendiculars; the margin;", DigestSentences::settings);
        s.holds("the length of the buffer and the code of each character in it.", DigestSentences::buffers);
        s.holds("Where a method returns an error code, the code is the value.", DigestSentences::codesAreValues);
        s.holds("Returns the hash.", DigestSentences::changesNothing);
    }

    /** The hash without a limit, and its lowest 64 bits as a long. */
    private static BigInteger unlimited(List<Long> values) {
        BigInteger hash = BigInteger.valueOf(1759);
        for (long value : values) {
            hash = hash.multiply(BigInteger.valueOf(31)).add(BigInteger.valueOf(value));
        }
        return hash;
    }

    private static long hash(List<Long> values) {
        return unlimited(values).mod(LONGS).longValue();
    }

    /** The list of a new object with these rows, whose surveys at the draft 0 cannot be computed. */
    private static List<Long> uncomputed(long length, long margin, String buffer, long... cells) {
        List<Long> values = new ArrayList<>();
        values.add((long) cells.length / 5);
        for (long cell : cells) {
            values.add(cell);
        }
        for (int survey = 0; survey < 4; survey++) {
            for (int zero = 0; zero < 10; zero++) {
                values.add(0L);
            }
            for (int code = 0; code < 6; code++) {
                values.add(NOT_COVERED);
            }
        }
        for (int code = 0; code < 4; code++) {
            values.add(NOT_COVERED);
        }
        values.addAll(List.of(length, margin, (long) buffer.length()));
        for (char ch : buffer.toCharArray()) {
            values.add((long) ch);
        }
        return values;
    }

    private static void wholeState(Check check) {
        DraftSurvey x = Ships.laden();
        long before = x.digest();
        String[] parts = {"length", "margin", "buffer", "reading", "density", "deduction", "table"};
        for (String part : parts) {
            switch (part) {
                case "length": x.setLength(200001); break;
                case "margin": x.setMargin(6); break;
                case "buffer": x.append(32); break;
                case "reading": x.setReading(3, 5, 6051); break;
                case "density": x.setDensity(3, 1025); break;
                case "deduction": x.setDeduction(2, 3, 0); break;
                default: x.clearTable(); break;
            }
            check.due("digest() is another behind a change of the " + part, x.digest() == before ? 0 : 1, 1);
            before = x.digest();
        }
        // two objects that have come to the same state by different ways
        DraftSurvey y = Ships.withRows("5,6,7,8,9");
        y.clearTable();
        y.setMargin(7);
        y.setMargin(0);
        y.setReading(2, 2, 2);
        y.setReading(2, 2, 0);
        Ships.type(y, "xyz");
        y.clearBuffer();
        check.due("digest() of an object that is as new", y.digest(), new DraftSurvey().digest());
    }

    private static void startsAt1759(Check check) {
        check.due("digest() of a new object", new DraftSurvey().digest(), hash(uncomputed(180000, 0, "")));
        check.due("digest() of a new object, found by another program", new DraftSurvey().digest(),
            -8560766162309147841L);
        // 31 is odd, so none of its powers is 0 in a long, and another start is always seen
        check.due("digest() of a laden ship", Ships.laden().digest(), hash(answers(Ships.laden(), 3, "7,x")));
    }

    private static void beyondLong(Check check) {
        long greatest = Long.MIN_VALUE;
        long least = Long.MAX_VALUE;
        for (int ch = 32; ch <= 126; ch++) {
            List<Long> values = uncomputed(180000, 0, "" + (char) ch);
            check.due("the hash without a limit is beyond a long", unlimited(values).bitLength() > 64 ? 1 : 0, 1);
            long due = hash(values);
            check.due("digest() with the character " + ch, Ships.withBuffer("" + (char) ch).digest(), due);
        }
        String text = "";
        for (int ch = 33; ch < 73; ch++) {
            text += (char) ch;
            long due = hash(uncomputed(180000, 0, text));
            check.due("digest() with " + text, Ships.withBuffer(text).digest(), due);
            greatest = Math.max(greatest, due);
            least = Math.min(least, due);
        }
        // the digests have been far above and far below 0
        check.due("a digest above the ints", greatest > Integer.MAX_VALUE ? 1 : 0, 1);
        check.due("a digest below the ints", least < Integer.MIN_VALUE ? 1 : 0, 1);
        check.due("digest() of a laden ship", Ships.laden().digest(), hash(answers(Ships.laden(), 3, "7,x")));
        check.due("digest() of ten rows", Ships.withTenRows().digest(), hash(answers(Ships.withTenRows(), 10, "")));
        check.due("digest() of a ship at its ends", Ships.atItsEnds().digest(),
            hash(answers(Ships.atItsEnds(), 10, "~~~~~~~~~~~~~~~~~~~~                    ")));
    }

    /** The list as the object's own methods answer it. */
    private static List<Long> answers(DraftSurvey x, int rows, String buffer) {
        List<Long> values = new ArrayList<>(List.of(x.rowCount()));
        for (int row = 0; row < rows; row++) {
            values.add(x.rowDraft(row));
            for (int column = 0; column < 4; column++) {
                values.add(x.tableValue(column, (int) x.rowDraft(row)));
            }
        }
        for (int survey = 0; survey < 4; survey++) {
            for (int mark = 0; mark < 6; mark++) {
                values.add(x.reading(survey, mark));
            }
            values.addAll(List.of(x.trim(survey), x.deflection(survey), x.heel(survey), x.quarterMean(survey),
                x.firstCorrection(survey), x.secondCorrection(survey), x.displacement(survey, -500),
                x.displacement(survey, 0), x.displacement(survey, 500), x.netWeight(survey)));
        }
        values.addAll(List.of(x.cargo(0, 1), x.cargoLow(0, 1), x.cargoHigh(0, 1), x.heaviest(), x.setLength(10000),
            x.setMargin(0), (long) buffer.length()));
        for (char ch : buffer.toCharArray()) {
            values.add((long) ch);
        }
        return values;
    }

    private static void rows(Check check) {
        // no row, one row and ten rows, none of which covers the draft 0
        check.due("digest() of no row", new DraftSurvey().digest(), hash(uncomputed(180000, 0, "")));
        long[] cells = {7, 8, 9, -10, 11};
        check.due("digest() of one row", Ships.withRows("7,8,9,-10,11").digest(),
            hash(uncomputed(180000, 0, "", cells)));
        long[] all = new long[50];
        for (int row = 1; row <= 10; row++) {
            long[] numbers = {10 * row, 100 * row, row, -row, 2 * row};
            System.arraycopy(numbers, 0, all, 5 * (row - 1), 5);
        }
        check.due("digest() of ten rows", Ships.withTenRows().digest(), hash(uncomputed(180000, 0, "", all)));
        DraftSurvey x = Ships.withTenRows();
        x.clearTable();
        check.due("digest() of a cleared table", x.digest(), hash(uncomputed(180000, 0, "")));
        long[] ends = {30000, 9999999, 20000, -100000, 200000};
        check.due("digest() of the greatest numbers", Ships.withRows("30000,9999999,20000,-100000,200000").digest(),
            hash(uncomputed(180000, 0, "", ends)));
    }

    /** Each value of the list by hand: column 0 is ten times the draft, the length the least, as in WeightsSentences. */
    private static List<Long> plainValues(long... surveys) {
        List<Long> values = new ArrayList<>(List.of(2L, 1000L, 10000L, 1000L, 1000L, 0L, 3000L, 30000L, 1000L, 1000L,
            2000L));
        for (long value : surveys) {
            values.add(value);
        }
        return values;
    }

    private static void surveys(Check check) {
        DraftSurvey x = Ships.withRows("1000,10000,1000,1000,0", "3000,30000,1000,1000,2000");
        x.setLength(10000);
        Ships.readings(x, 0, 1950, 1951, 1990, 2010, 2050, 2051);
        Ships.readings(x, 1, 1600, 1600, 1500, 1520, 1400, 1401);
        Ships.readings(x, 2, 1499, 1499, 1499, 1499, 1499, 1499);
        Ships.readings(x, 3, 2500, 2500, 2500, 2500, 2501, 2501);
        x.setDensity(1, 1000);
        x.setDeduction(0, 2, 150);
        x.setDeduction(3, 3, 1);
        long[] values = {
            // F 1950, M 2000, A 2050
            1950, 1951, 1990, 2010, 2050, 2051, 100, 0, 20, 2000, 100, 50, 15150, 20150, 25150, 20000,
            // F 1600, M 1510, A 1400: 10 * 1507 - 200 + 200; shifted by -500 to 1007 the change of MTC is 507
            1600, 1600, 1500, 1520, 1400, 1401, -200, 10, 20, 1507, -200, 200, 9727, 14702, 19580, 14702,
            // one millimetre too high for the shift of -500
            1499, 1499, 1499, 1499, 1499, 1499, 0, 0, 0, 1499, 0, 0, NOT_COVERED, 14990, 19990, 14990,
            2500, 2500, 2500, 2500, 2501, 2501, 1, 0, 0, 2500, 1, 0, 20001, 25001, 30001, 25000};
        List<Long> list = plainValues(values);
        list.addAll(List.of(14702L - 20000, 14702L - 20000, 14702L - 20000, 3L, 10000L, 0L, 0L));
        check.due("digest()", x.digest(), hash(list));
    }

    private static void cargoes(Check check) {
        // surveys 2 and 3 are equal to 0 and 1, the other way round
        DraftSurvey x = Ships.withRows("1000,10000,0,0,0", "3000,30000,0,0,0");
        int[] drafts = {1600, 2400, 2400, 1600};
        for (int survey = 0; survey < 4; survey++) {
            Ships.level(x, survey, drafts[survey]);
        }
        for (int margin : new int[] {0, 1, 100}) {
            x.setMargin(margin);
            List<Long> list = new ArrayList<>(List.of(2L, 1000L, 10000L, 0L, 0L, 0L, 3000L, 30000L, 0L, 0L, 0L));
            for (long draft : drafts) {
                list.addAll(List.of(draft, draft, draft, draft, draft, draft, 0L, 0L, 0L, draft, 0L, 0L,
                    10 * draft - 5000, 10 * draft, 10 * draft + 5000, 10 * draft));
            }
            list.addAll(List.of(8000L, 8000L - 20 * margin, 8000L + 20 * margin, 1L, 180000L, (long) margin, 0L));
            check.due("digest() with the margin " + margin, x.digest(), hash(list));
        }
    }

    private static void settings(Check check) {
        int[][] pairs = {{10000, 0}, {400000, 100}, {180000, 1}, {10000, 100}, {400000, 0}};
        for (int[] pair : pairs) {
            DraftSurvey x = new DraftSurvey();
            x.setLength(pair[0]);
            x.setMargin(pair[1]);
            check.due("digest() with the length " + pair[0] + " and the margin " + pair[1], x.digest(),
                hash(uncomputed(pair[0], pair[1], "")));
        }
    }

    private static void buffers(Check check) {
        String[] texts = {"", " ", "~", "1,2,3,4,5", "5,4,3,2,1", "0", "00", "1234567890123456789012345678901234567890",
            "~~~~~~~~~~~~~~~~~~~~~~~~~~~~~~~~~~~~~~~~", "                                        "};
        for (String text : texts) {
            check.due("digest() with '" + text + "'", Ships.withBuffer(text).digest(),
                hash(uncomputed(180000, 0, text)));
        }
        DraftSurvey x = Ships.withFullBuffer();
        x.append('1');
        check.due("digest() behind a character too many", x.digest(), Ships.withFullBuffer().digest());
        x.clearBuffer();
        check.due("digest() of a cleared buffer", x.digest(), hash(uncomputed(180000, 0, "")));
        Ships.type(x, "9");
        check.due("digest() of a buffer begun anew", x.digest(), hash(uncomputed(180000, 0, "9")));
    }

    private static void codesAreValues(Check check) {
        // survey 0 can be computed, but not shifted by -500; survey 1 cannot, but shifted by 500; 2 and 3 not at all
        DraftSurvey x = Ships.withRows("1000,10000,0,0,0", "3000,30000,0,0,0");
        int[] drafts = {1000, 999, 0, 30000};
        long no = NOT_COVERED;
        long[][] weights = {{0, 0, no, 10000, 15000, 10000}, {no, no, no, no, 14990, no}, {no, no, no, no, no, no},
            {no, no, no, no, no, no}};
        List<Long> list = new ArrayList<>(List.of(2L, 1000L, 10000L, 0L, 0L, 0L, 3000L, 30000L, 0L, 0L, 0L));
        for (int survey = 0; survey < 4; survey++) {
            long draft = drafts[survey];
            Ships.level(x, survey, drafts[survey]);
            list.addAll(List.of(draft, draft, draft, draft, draft, draft, 0L, 0L, 0L, draft));
            for (long weight : weights[survey]) {
                list.add(weight);
            }
        }
        list.addAll(List.of(no, no, no, 0L, 180000L, 0L, 0L));
        check.due("digest() with codes", x.digest(), hash(list));
        // the cargo stands where its bounds do not
        Ships.level(x, 1, 3000);
        x.setMargin(1);
        DraftSurvey twin = Ships.withRows("1000,10000,0,0,0", "3000,30000,0,0,0");
        for (int survey = 0; survey < 4; survey++) {
            Ships.level(twin, survey, survey == 1 ? 3000 : drafts[survey]);
        }
        twin.setMargin(1);
        List<Long> answers = answers(twin, 2, "");
        check.due("cargo(0, 1) in the list", answers.get(answers.size() - 7), 20000);
        check.due("cargoLow(0, 1) in the list", answers.get(answers.size() - 6), no);
        check.due("cargoHigh(0, 1) in the list", answers.get(answers.size() - 5), no);
        check.due("digest() with a cargo without bounds", x.digest(), hash(answers));
    }

    private static void changesNothing(Check check) {
        DraftSurvey x = Ships.laden();
        long digest = x.digest();
        check.due("digest() of a laden ship again", x.digest(), digest);
        check.dueText("all that can be asked behind it", Ships.everything(x).toString(),
            Ships.everything(Ships.laden()).toString());
        DraftSurvey ends = Ships.atItsEnds();
        digest = ends.digest();
        check.due("digest() of a ship at its ends again", ends.digest(), digest);
        check.dueText("all that can be asked behind it", Ships.everything(ends).toString(),
            Ships.everything(Ships.atItsEnds()).toString());
        DraftSurvey y = new DraftSurvey();
        for (int call = 1; call <= 512; call++) {
            check.due("digest() for the time " + call, y.digest(), -8560766162309147841L);
        }
        // two objects at once keep out of each other's way
        DraftSurvey one = Ships.withBuffer("1");
        DraftSurvey two = Ships.withBuffer("2");
        check.due("digest() of one", one.digest(), hash(uncomputed(180000, 0, "1")));
        check.due("digest() of two", two.digest(), hash(uncomputed(180000, 0, "2")));
    }
}
