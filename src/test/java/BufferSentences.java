/** Promises 1 to 4: the new object and the buffer. */
final class BufferSentences {
    private static final int MIN = Ships.MIN;
    private static final int MAX = Ships.MAX;
    private static final String DIGITS = "0123456789";

    private BufferSentences() {
    }

    static void all(Sentences s) {
        s.section("Promise 1: A new object");
        s.holds("Creates a calculator with an empty table, four surveys, the length 180000 and the error margin 0.",
            BufferSentences::newObject);
        s.section("Promise 2: append");
        s.holds("Appends one character to the input buffer.", BufferSentences::appended);
        s.holds("- `ch`: character code, 32 to 126", BufferSentences::codes);
        s.holds("Returns the new length of the buffer;", BufferSentences::newLength);
        s.holds("OUT_OF_RANGE if ch is out of range;", BufferSentences::codesOutOfRange);
        s.holds("FULL if the buffer already holds 40 characters.", BufferSentences::fullBuffer);
        s.section("Promise 3: clearBuffer");
        s.holds("Empties the input buffer.", BufferSentences::emptied);
        s.holds("Returns the length of the buffer before the call.", BufferSentences::lengthBefore);
        errorPosition(s);
    }

    private static void errorPosition(Sentences s) {
        s.section("Promise 4: errorPosition");
        s.holds("Finds the first character of the buffer that cannot continue a table row.",
            BufferSentences::firstCharacter);
        s.holds("A row is written as five numbers separated by commas: draft, displacement, TPC, LCF, MTC.",
            BufferSentences::fiveNumbers);
        s.holds("A number is a sequence of digits without leading zeros; the number zero is the single digit \"0\".",
            BufferSentences::noLeadingZeros);
        s.holds("Only LCF may be negative;", BufferSentences::onlyLcfNegative);
        s.holds("a negative number is \"-\" followed by a number that does not start with \"0\".",
            BufferSentences::negativeNumber);
        s.holds("The greatest allowed numbers are 30000 for the draft,", check -> greatest(check, "", "30000"));
        s.holds("9999999 for the displacement,", check -> greatest(check, "1,", "9999999"));
        s.holds("20000 for TPC,", check -> greatest(check, "1,2,", "20000"));
        s.holds("100000 for LCF", check -> greatest(check, "1,2,3,", "100000"));
        s.holds("(also for the digits behind its \"-\"),", check -> greatest(check, "1,2,3,-", "100000"));
        s.holds("200000 for MTC.", check -> greatest(check, "1,2,3,4,", "200000"));
        s.holds("A digit that would make a number greater than allowed is an error.", BufferSentences::digitTooMany);
        s.holds("Returns the index of that character,", BufferSentences::index);
        s.holds("or the length of the buffer if there is none.", BufferSentences::noError);
    }

    private static void newObject(Check check) {
        DraftSurvey x = new DraftSurvey();
        check.due("rowCount()", x.rowCount(), 0);
        check.due("rowDraft(0)", x.rowDraft(0), DraftSurvey.NO_SUCH_ITEM);
        check.due("tableValue(0, 0)", x.tableValue(0, 0), DraftSurvey.NOT_COVERED);
        check.due("draftFor(0)", x.draftFor(0), DraftSurvey.NOT_COVERED);
        check.due("clearTable()", x.clearTable(), 0);
        check.due("clearBuffer()", x.clearBuffer(), 0);
        check.due("reading(-1, 0)", x.reading(-1, 0), DraftSurvey.NO_SUCH_SURVEY);
        check.due("reading(0, 0)", x.reading(0, 0), 0);
        check.due("reading(3, 0)", x.reading(3, 0), 0);
        check.due("reading(4, 0)", x.reading(4, 0), DraftSurvey.NO_SUCH_SURVEY);
        check.due("setLength(180000)", x.setLength(180000), 180000);
        check.due("setMargin(0)", x.setMargin(0), 0);
        // the length and the margin in use: a correction of 180 / 180, and a bound that needs no margin
        Ships.row(x, "3000,0,180,10000,0");
        Ships.floating(x, 0, 3000, 10);
        check.due("firstCorrection(0)", x.firstCorrection(0), 1);
        check.due("cargoLow(0, 0)", x.cargoLow(0, 0), 0);
        check.due("cargoHigh(0, 0)", x.cargoHigh(0, 0), 0);
        // another object has nothing of this one
        check.due("rowCount() of another", new DraftSurvey().rowCount(), 0);
        check.due("reading(0, 0) of another", new DraftSurvey().reading(0, 0), 0);
    }

    /** A character more in the buffer turns the digest into this one. */
    private static long digestWith(long digest, long place, int ch) {
        return 31 * (digest + power(place)) + ch;
    }

    /** The weight of the buffer's length in a digest behind which so many characters stand. */
    private static long power(long exponent) {
        long power = 1;
        for (long i = 0; i < exponent; i++) {
            power *= 31;
        }
        return power;
    }

    private static void appended(Check check) {
        DraftSurvey x = new DraftSurvey();
        long due = x.digest();
        for (int place = 0; place < 40; place++) {
            int ch = 32 + 7 * place % 95;
            check.due("append(" + ch + ")", x.append(ch), place + 1);
            due = digestWith(due, place, ch);
            check.due("digest() with " + (place + 1) + " characters", x.digest(), due);
        }
        // what has been appended is what is read
        DraftSurvey y = Ships.withBuffer("12,34,5,-6,7");
        check.due("addRow()", y.addRow(), 1);
        check.due("rowDraft(0)", y.rowDraft(0), 12);
        check.due("tableValue(0, 12)", y.tableValue(0, 12), 34);
    }

    private static void codes(Check check) {
        for (int ch = 32; ch <= 126; ch++) {
            DraftSurvey x = new DraftSurvey();
            long before = x.digest();
            check.due("append(" + ch + ")", x.append(ch), 1);
            check.due("digest() with the character " + ch, x.digest(), digestWith(before, 0, ch));
            check.due("errorPosition() with the character " + ch, x.errorPosition(), ch >= '0' && ch <= '9' ? 1 : 0);
        }
    }

    private static void newLength(Check check) {
        DraftSurvey x = new DraftSurvey();
        for (int length = 1; length <= 40; length++) {
            check.due("append(126) to " + (length - 1), x.append(126), length);
        }
        x.clearBuffer();
        check.due("append(32) to 0", x.append(32), 1);
        check.due("append(31) to 1", x.append(31), DraftSurvey.OUT_OF_RANGE);
        check.due("append(32) to 1", x.append(32), 2);
    }

    private static void codesOutOfRange(Check check) {
        eachCode(check);
        int[] codes = {31, 127, 30, 128, 0, -1, -32, 10, 255, 256 + 48, 65536 + 48, MIN, MIN + 48, MAX};
        for (int ch : codes) {
            Ships.refused(check, "append(" + ch + ")", Ships::laden, x -> x.append(ch), DraftSurvey.OUT_OF_RANGE);
            Ships.refused(check, "append(" + ch + ") to 0", DraftSurvey::new, x -> x.append(ch),
                DraftSurvey.OUT_OF_RANGE);
            Ships.refused(check, "append(" + ch + ") to 40", Ships::withFullBuffer, x -> x.append(ch),
                DraftSurvey.OUT_OF_RANGE);
        }
    }

    /** Every code round about the range, each on an object of its own. */
    private static void eachCode(Check check) {
        for (int ch = -300; ch <= 1100; ch++) {
            DraftSurvey x = new DraftSurvey();
            check.due("append(" + ch + ")", x.append(ch), ch >= 32 && ch <= 126 ? 1 : DraftSurvey.OUT_OF_RANGE);
            check.due("clearBuffer() behind it", x.clearBuffer(), ch >= 32 && ch <= 126 ? 1 : 0);
        }
    }

    private static void fullBuffer(Check check) {
        for (int ch : new int[] {32, 44, 48, 126}) {
            Ships.refused(check, "append(" + ch + ") to 40", Ships::withFullBuffer, x -> x.append(ch),
                DraftSurvey.FULL);
        }
        DraftSurvey x = Ships.withBuffer("123456789012345678901234567890123456789");
        check.due("append(48) to 39", x.append(48), 40);
        check.due("append(48) to 40", x.append(48), DraftSurvey.FULL);
        check.due("clearBuffer()", x.clearBuffer(), 40);
        check.due("append(48) to 0", x.append(48), 1);
    }

    private static void emptied(Check check) {
        String[] texts = {"", "1", "1,2,3,4,5", "1234567890123456789012345678901234567890"};
        for (String text : texts) {
            DraftSurvey x = Ships.laden();
            x.clearBuffer();
            long empty = x.digest();
            Ships.type(x, text);
            check.due("clearBuffer() of '" + text + "'", x.clearBuffer(), text.length());
            check.due("digest() behind it", x.digest(), empty);
            check.due("clearBuffer() again", x.clearBuffer(), 0);
            check.due("errorPosition()", x.errorPosition(), 0);
            check.due("addRow()", x.addRow(), DraftSurvey.INVALID_ROW);
            check.due("append('8')", x.append('8'), 1);
            check.due("errorPosition() of 8", x.errorPosition(), 1);
            check.due("rowCount()", x.rowCount(), 3);
        }
    }

    private static void lengthBefore(Check check) {
        DraftSurvey x = new DraftSurvey();
        int[] lengths = {0, 1, 2, 39, 40, 0};
        for (int length : lengths) {
            for (int i = 0; i < length; i++) {
                x.append('x');
            }
            check.due("clearBuffer() with " + length + " characters", x.clearBuffer(), length);
        }
        Ships.withFullBuffer().append('1');
        DraftSurvey full = Ships.withFullBuffer();
        full.append('1');
        check.due("clearBuffer() behind a refused character", full.clearBuffer(), 40);
        Ships.row(x, "1,2,3,4,5");
        check.due("clearBuffer() behind a row", x.clearBuffer(), 0);
    }

    private static void finds(Check check, String text, int position) {
        DraftSurvey x = Ships.withBuffer(text);
        long before = x.digest();
        check.due("errorPosition() of '" + text + "'", x.errorPosition(), position);
        check.due("errorPosition() again of '" + text + "'", x.errorPosition(), position);
        check.due("digest() behind it", x.digest(), before);
    }

    /** Behind the text just these characters can continue a row. */
    private static void continues(Check check, String text, String allowed) {
        for (char ch = 32; ch <= 126; ch++) {
            finds(check, text + ch, text.length() + (allowed.indexOf(ch) >= 0 ? 1 : 0));
        }
    }

    private static void firstCharacter(Check check) {
        finds(check, "x", 0);
        finds(check, "xx", 0);
        finds(check, "1x2x", 1);
        finds(check, "1,,2,,3", 2);
        finds(check, "01,-2", 1);
        finds(check, "1,2,3,4,5xyz", 9);
        finds(check, "99999,x", 4);
        finds(check, "30000,9999999,20000,-100000,200000x     ", 34);
        finds(check, "                                        ", 0);
        finds(check, "1234567890123456789012345678901234567890", 5);
        finds(check, "1,2,3,4,1234567890123456789012345678901,", 14);
    }

    private static void fiveNumbers(Check check) {
        continues(check, "", DIGITS);
        continues(check, "7", DIGITS + ",");
        continues(check, "7,", DIGITS);
        continues(check, "7,8", DIGITS + ",");
        continues(check, "7,8,", DIGITS);
        continues(check, "7,8,9", DIGITS + ",");
        continues(check, "7,8,9,", DIGITS + "-");
        continues(check, "7,8,9,6", DIGITS + ",");
        continues(check, "7,8,9,-", "123456789");
        continues(check, "7,8,9,-6", DIGITS + ",");
        continues(check, "7,8,9,6,", DIGITS);
        continues(check, "7,8,9,6,5", DIGITS);
    }

    private static void noLeadingZeros(Check check) {
        String[] before = {"", "1,", "1,2,", "1,2,3,", "1,2,3,4,"};
        for (int place = 0; place < 5; place++) {
            continues(check, before[place] + "0", place < 4 ? "," : "");
            continues(check, before[place] + "10", place < 4 ? DIGITS + "," : DIGITS);
            finds(check, before[place] + "00", before[place].length() + 1);
            finds(check, before[place] + "01", before[place].length() + 1);
        }
        finds(check, "0,0,0,0,0", 9);
        check.due("addRow() of zeros", Ships.withBuffer("0,0,0,0,0").addRow(), 1);
        check.due("addRow() of 00", Ships.withBuffer("1,2,3,4,00").addRow(), DraftSurvey.INVALID_ROW);
    }

    private static void onlyLcfNegative(Check check) {
        finds(check, "-1,2,3,4,5", 0);
        finds(check, "1,-2,3,4,5", 2);
        finds(check, "1,2,-3,4,5", 4);
        finds(check, "1,2,3,-4,5", 10);
        finds(check, "1,2,3,4,-5", 8);
        finds(check, "1,2,3,-4,-5", 9);
        finds(check, "-", 0);
        finds(check, "1,2,3,-", 7);
    }

    private static void negativeNumber(Check check) {
        finds(check, "1,2,3,-0", 7);
        finds(check, "1,2,3,-01", 7);
        finds(check, "1,2,3,-00", 7);
        finds(check, "1,2,3,--", 7);
        finds(check, "1,2,3,--1", 7);
        finds(check, "1,2,3,-,", 7);
        finds(check, "1,2,3,1-", 7);
        finds(check, "1,2,3,0-", 7);
        finds(check, "1,2,3,-1-", 8);
        finds(check, "1,2,3,-1", 8);
        finds(check, "1,2,3,-9", 8);
        finds(check, "1,2,3,-10,", 10);
        finds(check, "1,2,3,0,", 8);
        check.due("addRow() of a minus alone", Ships.withBuffer("1,2,3,-,5").addRow(), DraftSurvey.INVALID_ROW);
        check.due("addRow() of a minus zero", Ships.withBuffer("1,2,3,-0,5").addRow(), DraftSurvey.INVALID_ROW);
        DraftSurvey x = Ships.withRows("1,2,3,-1,5", "2,2,3,-100000,5", "3,2,3,0,5");
        check.due("tableValue(2, 1)", x.tableValue(2, 1), -1);
        check.due("tableValue(2, 2)", x.tableValue(2, 2), -100000);
        check.due("tableValue(2, 3)", x.tableValue(2, 3), 0);
    }

    /** The number itself and the one before it are allowed, those behind it and those with a digit more are not. */
    private static void greatest(Check check, String before, String number) {
        boolean isLast = before.startsWith("1,2,3,4,");
        long value = Long.parseLong(number);
        int start = before.length();
        finds(check, before + (value - 1), start + String.valueOf(value - 1).length());
        finds(check, before + number, start + number.length());
        continues(check, before + number, isLast ? "" : ",");
        finds(check, before + number + "0", start + number.length());
        // 9999999 is followed by a number that is too long, all the others by one that ends too high
        finds(check, before + (value + 1), start + number.length() - (value == 9999999 ? 0 : 1));
        String tail = "1,2,3,4,5".substring(Math.min(9, before.replace("-", "").length() + 1));
        for (long one = value - 1; one <= value + 1; one++) {
            DraftSurvey x = Ships.withBuffer(before + one + tail);
            check.due("addRow() of " + before + one + tail, x.addRow(), one <= value ? 1 : DraftSurvey.INVALID_ROW);
        }
    }

    private static void digitTooMany(Check check) {
        // the first digits still make allowed numbers: the fault is at the digit that makes the number too great
        finds(check, "30001", 4);
        finds(check, "30010", 4);
        finds(check, "30100", 4);
        finds(check, "31000", 4);
        finds(check, "40000", 4);
        finds(check, "3001", 4);
        finds(check, "9999", 4);
        finds(check, "99999", 4);
        finds(check, "300000", 5);
        finds(check, "1,10000000", 9);
        finds(check, "1,2,20001", 8);
        finds(check, "1,2,99999", 8);
        finds(check, "1,2,3,100001", 11);
        finds(check, "1,2,3,99999", 11);
        finds(check, "1,2,3,999999", 11);
        finds(check, "1,2,3,-100001", 12);
        finds(check, "1,2,3,-999999", 12);
        finds(check, "1,2,3,4,200001", 13);
        finds(check, "1,2,3,4,999999", 13);
        // so long a number would go beyond an int, and beyond a long
        finds(check, "1,2,3,4,4294967297", 13);
        finds(check, "1,18446744073709551617", 9);
        finds(check, "18446744073709551617184467440737095516", 5);
    }

    private static void index(Check check) {
        String row = "30000,9999999,20000,-100000,200000";
        for (int at = 0; at <= row.length(); at++) {
            finds(check, row.substring(0, at) + "x", at);
            finds(check, row.substring(0, at) + "x" + row.substring(at, Math.max(at, 30)), at);
        }
    }

    private static void noError(Check check) {
        String row = "30000,9999999,20000,-100000,200000";
        for (int length = 0; length <= row.length(); length++) {
            finds(check, row.substring(0, length), length);
        }
        DraftSurvey x = Ships.withRows("1,2,3,4,5");
        check.due("errorPosition() behind a row", x.errorPosition(), 0);
    }
}
