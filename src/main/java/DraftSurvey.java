/**
 * A calculator for draft surveys of bulk carriers: it finds the weight of cargo
 * as the difference of two hydrostatic surveys.
 */
public final class DraftSurvey {
    public static final long NO_SUCH_SURVEY = -9000000000000000001L;
    public static final long NO_SUCH_ITEM = -9000000000000000002L;
    public static final long OUT_OF_RANGE = -9000000000000000003L;
    public static final long INVALID_ROW = -9000000000000000004L;
    public static final long NOT_ASCENDING = -9000000000000000005L;
    public static final long FULL = -9000000000000000006L;
    public static final long NOT_COVERED = -9000000000000000007L;

    private static final int SURVEYS = 4;
    private static final int MARKS = 6;
    private static final int KINDS = 4;
    private static final int COLUMNS = 4;

    private static final int MOST_ROWS = 10;
    private static final int MOST_CHARACTERS = 40;
    private static final int FIRST_CHARACTER = 32;
    private static final int LAST_CHARACTER = 126;

    // The places of the numbers in a row; column c of the table stands at place c + 1.
    private static final int PLACES = 5;
    private static final int DRAFT = 0;
    private static final int DISPLACEMENT = 1;
    private static final int TPC = 2;
    private static final int LCF = 3;
    private static final int MTC = 4;
    private static final long[] GREATEST = {30000, 9999999, 20000, 100000, 200000};

    private static final int MOST_DRAFT = 30000;
    private static final int MOST_WEIGHT = 9999999;
    private static final int LEAST_LENGTH = 10000;
    private static final int MOST_LENGTH = 400000;
    private static final int LEAST_DENSITY = 950;
    private static final int MOST_DENSITY = 1050;
    private static final int MOST_MARGIN = 100;
    private static final int MOST_SHIFT = 1000;

    private static final long TABLE_DENSITY = 1025;
    private static final long MTC_REACH = 500;
    private static final int DIGEST_SHIFT = 500;
    private static final long DIGEST_START = 1759;

    private final int[] buffer;
    private int bufferLength;
    private final RowReader reader;
    private final Table table;
    private final Survey[] surveys;
    private long length;
    private long margin;

    public DraftSurvey() {
        buffer = new int[MOST_CHARACTERS];
        bufferLength = 0;
        reader = new RowReader();
        table = new Table();
        surveys = new Survey[SURVEYS];
        for (int survey = 0; survey < SURVEYS; survey++) {
            surveys[survey] = new Survey();
        }
        length = 180000;
        margin = 0;
    }

    // ---- hydrostatic table

    public long append(int ch) {
        if (ch < FIRST_CHARACTER || ch > LAST_CHARACTER) {
            return OUT_OF_RANGE;
        }
        if (bufferLength < 0 || bufferLength >= MOST_CHARACTERS) {
            return FULL;
        }
        buffer[bufferLength] = ch;
        bufferLength++;
        return bufferLength;
    }

    public long clearBuffer() {
        long before = bufferLength;
        bufferLength = 0;
        return before;
    }

    public long errorPosition() {
        return readBuffer();
    }

    public long addRow() {
        if (readBuffer() < bufferLength || !reader.isComplete()) {
            return INVALID_ROW;
        }
        if (table.isFull()) {
            return FULL;
        }
        if (!table.canFollow(reader.numberAt(DRAFT), reader.numberAt(DISPLACEMENT))) {
            return NOT_ASCENDING;
        }
        table.add(reader);
        bufferLength = 0;
        return table.rows;
    }

    public long clearTable() {
        long before = table.rows;
        table.rows = 0;
        return before;
    }

    public long rowDraft(int row) {
        if (row < 0 || row >= table.rows) {
            return NO_SUCH_ITEM;
        }
        return table.cell(row, DRAFT);
    }

    public long tableValue(int column, int draft) {
        if (column < 0 || column >= COLUMNS) {
            return NO_SUCH_ITEM;
        }
        return table.valueAt(column + 1, draft);
    }

    // ---- settings and readings

    public long setLength(int length) {
        if (length < LEAST_LENGTH || length > MOST_LENGTH) {
            return OUT_OF_RANGE;
        }
        long previous = this.length;
        this.length = length;
        return previous;
    }

    public long setMargin(int margin) {
        if (margin < 0 || margin > MOST_MARGIN) {
            return OUT_OF_RANGE;
        }
        long previous = this.margin;
        this.margin = margin;
        return previous;
    }

    public long setReading(int survey, int mark, int draft) {
        Survey chosen = surveyAt(survey);
        if (chosen == null) {
            return NO_SUCH_SURVEY;
        }
        if (mark < 0 || mark >= MARKS) {
            return NO_SUCH_ITEM;
        }
        if (draft < 0 || draft > MOST_DRAFT) {
            return OUT_OF_RANGE;
        }
        long previous = chosen.readings[mark];
        chosen.readings[mark] = draft;
        return previous;
    }

    public long reading(int survey, int mark) {
        Survey chosen = surveyAt(survey);
        if (chosen == null) {
            return NO_SUCH_SURVEY;
        }
        if (mark < 0 || mark >= MARKS) {
            return NO_SUCH_ITEM;
        }
        return chosen.readings[mark];
    }

    public long setDensity(int survey, int density) {
        Survey chosen = surveyAt(survey);
        if (chosen == null) {
            return NO_SUCH_SURVEY;
        }
        if (density < LEAST_DENSITY || density > MOST_DENSITY) {
            return OUT_OF_RANGE;
        }
        long previous = chosen.density;
        chosen.density = density;
        return previous;
    }

    public long setDeduction(int survey, int kind, int weight) {
        Survey chosen = surveyAt(survey);
        if (chosen == null) {
            return NO_SUCH_SURVEY;
        }
        if (kind < 0 || kind >= KINDS) {
            return NO_SUCH_ITEM;
        }
        if (weight < 0 || weight > MOST_WEIGHT) {
            return OUT_OF_RANGE;
        }
        long previous = chosen.deductions[kind];
        chosen.deductions[kind] = weight;
        return previous;
    }

    // ---- drafts of a survey

    public long trim(int survey) {
        Survey chosen = surveyAt(survey);
        return chosen == null ? NO_SUCH_SURVEY : chosen.sternTrim();
    }

    public long deflection(int survey) {
        Survey chosen = surveyAt(survey);
        return chosen == null ? NO_SUCH_SURVEY : chosen.hullDeflection();
    }

    public long heel(int survey) {
        Survey chosen = surveyAt(survey);
        return chosen == null ? NO_SUCH_SURVEY : chosen.starboardHeel();
    }

    public long quarterMean(int survey) {
        Survey chosen = surveyAt(survey);
        return chosen == null ? NO_SUCH_SURVEY : chosen.meanDraft();
    }

    // ---- weights of a survey

    public long firstCorrection(int survey) {
        Survey chosen = surveyAt(survey);
        if (chosen == null) {
            return NO_SUCH_SURVEY;
        }
        if (!canCompute(chosen, 0)) {
            return NOT_COVERED;
        }
        return firstCorrectionAt(chosen.meanDraft(), chosen.sternTrim());
    }

    public long secondCorrection(int survey) {
        Survey chosen = surveyAt(survey);
        if (chosen == null) {
            return NO_SUCH_SURVEY;
        }
        if (!canCompute(chosen, 0)) {
            return NOT_COVERED;
        }
        return secondCorrectionAt(chosen.meanDraft(), chosen.sternTrim());
    }

    public long displacement(int survey, int shift) {
        Survey chosen = surveyAt(survey);
        if (chosen == null) {
            return NO_SUCH_SURVEY;
        }
        if (shift < -MOST_SHIFT || shift > MOST_SHIFT) {
            return OUT_OF_RANGE;
        }
        if (!canCompute(chosen, shift)) {
            return NOT_COVERED;
        }
        return displacementOf(chosen, shift);
    }

    public long netWeight(int survey) {
        Survey chosen = surveyAt(survey);
        if (chosen == null) {
            return NO_SUCH_SURVEY;
        }
        if (!canCompute(chosen, 0)) {
            return NOT_COVERED;
        }
        return netWeightOf(chosen, 0);
    }

    public long cargo(int first, int second) {
        Survey from = surveyAt(first);
        Survey to = surveyAt(second);
        if (from == null || to == null) {
            return NO_SUCH_SURVEY;
        }
        if (!canCompute(from, 0) || !canCompute(to, 0)) {
            return NOT_COVERED;
        }
        return netWeightOf(to, 0) - netWeightOf(from, 0);
    }

    public long cargoLow(int first, int second) {
        Survey from = surveyAt(first);
        Survey to = surveyAt(second);
        if (from == null || to == null) {
            return NO_SUCH_SURVEY;
        }
        if (!canComputeMargins(from) || !canComputeMargins(to)) {
            return NOT_COVERED;
        }
        return lightWeight(to) - heavyWeight(from);
    }

    public long cargoHigh(int first, int second) {
        Survey from = surveyAt(first);
        Survey to = surveyAt(second);
        if (from == null || to == null) {
            return NO_SUCH_SURVEY;
        }
        if (!canComputeMargins(from) || !canComputeMargins(to)) {
            return NOT_COVERED;
        }
        return heavyWeight(to) - lightWeight(from);
    }

    public long draftFor(int displacement) {
        return table.leastDraftFor(displacement);
    }

    public long heaviest() {
        long heaviest = NOT_COVERED;
        long greatest = 0;
        for (int survey = 0; survey < SURVEYS; survey++) {
            Survey chosen = surveyAt(survey);
            if (chosen != null && canCompute(chosen, 0)) {
                long weight = netWeightOf(chosen, 0);
                if (heaviest == NOT_COVERED || weight > greatest) {
                    heaviest = survey;
                    greatest = weight;
                }
            }
        }
        return heaviest;
    }

    public long rowCount() {
        return table.rows;
    }

    public long digest() {
        long hash = hashOfTable(DIGEST_START);
        for (int survey = 0; survey < SURVEYS; survey++) {
            hash = hashOfSurvey(hash, survey);
        }
        hash = hashWith(hash, cargo(0, 1));
        hash = hashWith(hash, cargoLow(0, 1));
        hash = hashWith(hash, cargoHigh(0, 1));
        hash = hashWith(hash, heaviest());
        hash = hashWith(hash, length);
        hash = hashWith(hash, margin);
        return hashOfBuffer(hash);
    }

    // ---- helpers

    private Survey surveyAt(int survey) {
        if (survey < 0 || survey >= SURVEYS) {
            return null;
        }
        return surveys[survey];
    }

    /** Returns the index of the first character that the reader refuses, or the buffer's length. */
    private int readBuffer() {
        reader.begin();
        for (int at = 0; at < bufferLength && at < MOST_CHARACTERS; at++) {
            if (!reader.takes(buffer[at])) {
                return at;
            }
        }
        return bufferLength;
    }

    /*
     * A shift of all six readings moves the forward, midship, aft and quarter mean
     * drafts by the same amount, floorDiv included, and leaves the trim as it is.
     */

    private boolean canCompute(Survey survey, long shift) {
        return table.covers(survey.meanDraft() + shift);
    }

    private boolean canComputeMargins(Survey survey) {
        return canCompute(survey, -margin) && canCompute(survey, margin);
    }

    private long firstCorrectionAt(long draft, long trim) {
        long product = trim * table.valueAt(TPC, draft) * table.valueAt(LCF, draft);
        return quotient(product, 100 * length);
    }

    private long secondCorrectionAt(long draft, long trim) {
        long lower = Math.max(draft - MTC_REACH, table.firstDraft());
        long upper = Math.min(draft + MTC_REACH, table.lastDraft());
        long change = table.valueAt(MTC, upper) - table.valueAt(MTC, lower);
        return quotient(50 * trim * trim * change, 1000 * length);
    }

    private long displacementOf(Survey survey, long shift) {
        long draft = survey.meanDraft() + shift;
        long trim = survey.sternTrim();
        long corrected = table.valueAt(DISPLACEMENT, draft)
            + firstCorrectionAt(draft, trim)
            + secondCorrectionAt(draft, trim);
        return Math.floorDiv(corrected * survey.density, TABLE_DENSITY);
    }

    private long netWeightOf(Survey survey, long shift) {
        return displacementOf(survey, shift) - survey.deducted();
    }

    private long lightWeight(Survey survey) {
        return Math.min(netWeightOf(survey, -margin), netWeightOf(survey, margin));
    }

    private long heavyWeight(Survey survey) {
        return Math.max(netWeightOf(survey, -margin), netWeightOf(survey, margin));
    }

    /** floorDiv for divisors that are not constants: none of them is ever 0. */
    private static long quotient(long dividend, long divisor) {
        return divisor == 0 ? 0 : Math.floorDiv(dividend, divisor);
    }

    private static long hashWith(long hash, long value) {
        return 31 * hash + value;
    }

    private long hashOfTable(long start) {
        long hash = hashWith(start, table.rows);
        for (int row = 0; row < table.rows; row++) {
            for (int place = 0; place < PLACES; place++) {
                hash = hashWith(hash, table.cell(row, place));
            }
        }
        return hash;
    }

    private long hashOfSurvey(long start, int survey) {
        long hash = start;
        for (int mark = 0; mark < MARKS; mark++) {
            hash = hashWith(hash, reading(survey, mark));
        }
        hash = hashWith(hash, trim(survey));
        hash = hashWith(hash, deflection(survey));
        hash = hashWith(hash, heel(survey));
        hash = hashWith(hash, quarterMean(survey));
        hash = hashWith(hash, firstCorrection(survey));
        hash = hashWith(hash, secondCorrection(survey));
        hash = hashWith(hash, displacement(survey, -DIGEST_SHIFT));
        hash = hashWith(hash, displacement(survey, 0));
        hash = hashWith(hash, displacement(survey, DIGEST_SHIFT));
        return hashWith(hash, netWeight(survey));
    }

    private long hashOfBuffer(long start) {
        long hash = hashWith(start, bufferLength);
        for (int at = 0; at < bufferLength && at < MOST_CHARACTERS; at++) {
            hash = hashWith(hash, buffer[at]);
        }
        return hash;
    }

    /** Reads a table row, a character at a time. */
    private static final class RowReader {
        private final long[] numbers = new long[PLACES];
        private int place;
        private int digits;
        private boolean negative;
        private long magnitude;

        void begin() {
            place = 0;
            beginNumber();
        }

        private void beginNumber() {
            digits = 0;
            negative = false;
            magnitude = 0;
        }

        /** Answers whether the character can continue the row, and if so reads it. */
        boolean takes(int ch) {
            if (ch == ',') {
                return takesComma();
            }
            if (ch == '-') {
                return takesMinus();
            }
            if (ch >= '0' && ch <= '9') {
                return takesDigit(ch - '0');
            }
            return false;
        }

        private boolean takesComma() {
            if (digits == 0 || place >= PLACES - 1) {
                return false;
            }
            place++;
            beginNumber();
            return true;
        }

        private boolean takesMinus() {
            if (place != LCF || negative || digits > 0) {
                return false;
            }
            negative = true;
            return true;
        }

        private boolean takesDigit(int digit) {
            boolean afterZero = digits > 0 && magnitude == 0;
            boolean negativeZero = negative && digits == 0 && digit == 0;
            if (afterZero || negativeZero || place < 0 || place >= PLACES) {
                return false;
            }
            long longer = 10 * magnitude + digit;
            if (longer > GREATEST[place]) {
                return false;
            }
            magnitude = longer;
            digits++;
            numbers[place] = negative ? -magnitude : magnitude;
            return true;
        }

        boolean isComplete() {
            return place == PLACES - 1 && digits > 0;
        }

        long numberAt(int place) {
            return place < 0 || place >= PLACES ? 0 : numbers[place];
        }
    }

    /** The hydrostatic table: rows of increasing drafts and displacements that never decrease. */
    private static final class Table {
        private final long[] cells = new long[MOST_ROWS * PLACES];
        private int rows;

        long cell(int row, int place) {
            if (row < 0 || row >= rows || row >= MOST_ROWS || place < 0 || place >= PLACES) {
                return 0;
            }
            return cells[row * PLACES + place];
        }

        boolean isFull() {
            return rows >= MOST_ROWS;
        }

        boolean canFollow(long draft, long displacement) {
            return rows == 0
                || draft > lastDraft() && displacement >= cell(rows - 1, DISPLACEMENT);
        }

        void add(RowReader row) {
            if (row == null || rows < 0 || rows >= MOST_ROWS) {
                return;
            }
            for (int place = 0; place < PLACES; place++) {
                cells[rows * PLACES + place] = row.numberAt(place);
            }
            rows++;
        }

        long firstDraft() {
            return cell(0, DRAFT);
        }

        long lastDraft() {
            return cell(rows - 1, DRAFT);
        }

        boolean covers(long draft) {
            return rows > 0 && draft >= firstDraft() && draft <= lastDraft();
        }

        long valueAt(int place, long draft) {
            int upper = 0;
            while (upper < rows && cell(upper, DRAFT) < draft) {
                upper++;
            }
            if (upper >= rows) {
                return NOT_COVERED;
            }
            long upperDraft = cell(upper, DRAFT);
            long upperValue = cell(upper, place);
            if (upperDraft == draft) {
                return upperValue;
            }
            if (upper == 0) {
                return NOT_COVERED;
            }
            long lowerDraft = cell(upper - 1, DRAFT);
            long lowerValue = cell(upper - 1, place);
            long rise = (upperValue - lowerValue) * (draft - lowerDraft);
            long span = upperDraft - lowerDraft;
            return span == 0 ? lowerValue : lowerValue + Math.floorDiv(rise, span);
        }

        long leastDraftFor(long displacement) {
            int upper = 0;
            while (upper < rows && cell(upper, DISPLACEMENT) < displacement) {
                upper++;
            }
            if (upper >= rows) {
                return NOT_COVERED;
            }
            if (upper == 0) {
                return firstDraft();
            }
            long lowerDraft = cell(upper - 1, DRAFT);
            long lowerDisplacement = cell(upper - 1, DISPLACEMENT);
            long span = cell(upper, DRAFT) - lowerDraft;
            long rise = cell(upper, DISPLACEMENT) - lowerDisplacement;
            // floorDiv(rise * step, span) is at least missing exactly if rise * step is at
            // least missing * span, so the least step is a quotient rounded upwards.
            long missing = displacement - lowerDisplacement;
            return lowerDraft - quotient(-missing * span, rise);
        }
    }

    /** The readings, the water density and the deductions of one survey. */
    private static final class Survey {
        private final long[] readings = new long[MARKS];
        private final long[] deductions = new long[KINDS];
        private long density = TABLE_DENSITY;

        long forwardDraft() {
            return Math.floorDiv(readings[0] + readings[1], 2L);
        }

        long midshipDraft() {
            return Math.floorDiv(readings[2] + readings[3], 2L);
        }

        long aftDraft() {
            return Math.floorDiv(readings[4] + readings[5], 2L);
        }

        long sternTrim() {
            return aftDraft() - forwardDraft();
        }

        long hullDeflection() {
            return midshipDraft() - Math.floorDiv(forwardDraft() + aftDraft(), 2L);
        }

        long starboardHeel() {
            return readings[3] - readings[2];
        }

        long meanDraft() {
            return Math.floorDiv(forwardDraft() + 6 * midshipDraft() + aftDraft(), 8L);
        }

        long deducted() {
            long sum = 0;
            for (int kind = 0; kind < KINDS; kind++) {
                sum += deductions[kind];
            }
            return sum;
        }
    }
}
