import java.util.ArrayList;
import java.util.List;

/**
 * The document once more, for comparing: it shifts by really adding to the readings, finds drafts by trying them all,
 * and reads rows by splitting texts.
 */
final class Model {
    private static final long[] LIMITS = {30000, 9999999, 20000, 100000, 200000};
    private final List<long[]> rows = new ArrayList<>();
    private String buffer = "";
    private final long[][] readings = new long[4][6];
    private final long[][] deductions = new long[4][4];
    private final long[] densities = {1025, 1025, 1025, 1025};
    private long length = 180000;
    private long margin = 0;

    private static long floor(long a, long b) {
        long rest = ((a % b) + b) % b;
        return (a - rest) / b;
    }

    long append(int ch) {
        if (ch < 32 || ch > 126) return DraftSurvey.OUT_OF_RANGE;
        if (buffer.length() == 40) return DraftSurvey.FULL;
        buffer += (char) ch;
        return buffer.length();
    }

    long clearBuffer() {
        long before = buffer.length();
        buffer = "";
        return before;
    }

    private static boolean isNumber(String text, int place) {
        String digits = place == 3 && text.startsWith("-") ? text.substring(1) : text;
        if (!digits.matches("0|[1-9][0-9]*") || digits.length() > 9) return false;
        if (digits.length() < text.length() && digits.startsWith("0")) return false;
        return Long.parseLong(digits) <= LIMITS[place];
    }

    private static boolean isBeginning(String text) {
        String[] parts = text.split(",", -1);
        if (parts.length > 5) return false;
        for (int place = 0; place < parts.length; place++) {
            boolean last = place == parts.length - 1;
            boolean open = last && (parts[place].isEmpty() || place == 3 && parts[place].equals("-"));
            if (!open && !isNumber(parts[place], place)) return false;
        }
        return true;
    }

    long errorPosition() {
        int good = 0;
        while (good < buffer.length() && isBeginning(buffer.substring(0, good + 1))) good++;
        return good;
    }

    long addRow() {
        String[] parts = buffer.split(",", -1);
        if (parts.length != 5) return DraftSurvey.INVALID_ROW;
        long[] row = new long[5];
        for (int place = 0; place < 5; place++) {
            if (!isNumber(parts[place], place)) return DraftSurvey.INVALID_ROW;
            row[place] = Long.parseLong(parts[place]);
        }
        if (rows.size() == 10) return DraftSurvey.FULL;
        if (!rows.isEmpty()) {
            long[] last = rows.get(rows.size() - 1);
            if (row[0] <= last[0] || row[1] < last[1]) return DraftSurvey.NOT_ASCENDING;
        }
        rows.add(row);
        buffer = "";
        return rows.size();
    }

    long clearTable() {
        long before = rows.size();
        rows.clear();
        return before;
    }

    long rowDraft(int row) {
        return row >= 0 && row < rows.size() ? rows.get(row)[0] : DraftSurvey.NO_SUCH_ITEM;
    }

    long tableValue(int column, int draft) {
        if (column < 0 || column > 3) return DraftSurvey.NO_SUCH_ITEM;
        return value(column, draft);
    }

    private boolean covered(long draft) {
        return !rows.isEmpty() && rows.get(0)[0] <= draft && draft <= rows.get(rows.size() - 1)[0];
    }

    private long value(int column, long draft) {
        if (!covered(draft)) return DraftSurvey.NOT_COVERED;
        for (long[] row : rows) {
            if (row[0] == draft) return row[column + 1];
        }
        int i = 0;
        for (int row = 0; row < rows.size(); row++) {
            if (rows.get(row)[0] < draft) i = row;
        }
        long[] a = rows.get(i);
        long[] b = rows.get(i + 1);
        return a[column + 1] + floor((b[column + 1] - a[column + 1]) * (draft - a[0]), b[0] - a[0]);
    }

    long setLength(int value) {
        if (value < 10000 || value > 400000) return DraftSurvey.OUT_OF_RANGE;
        long before = length;
        length = value;
        return before;
    }

    long setMargin(int value) {
        if (value < 0 || value > 100) return DraftSurvey.OUT_OF_RANGE;
        long before = margin;
        margin = value;
        return before;
    }

    private static boolean missing(int survey) {
        return survey < 0 || survey > 3;
    }

    long setReading(int survey, int mark, int draft) {
        if (missing(survey)) return DraftSurvey.NO_SUCH_SURVEY;
        if (mark < 0 || mark > 5) return DraftSurvey.NO_SUCH_ITEM;
        if (draft < 0 || draft > 30000) return DraftSurvey.OUT_OF_RANGE;
        long before = readings[survey][mark];
        readings[survey][mark] = draft;
        return before;
    }

    long reading(int survey, int mark) {
        if (missing(survey)) return DraftSurvey.NO_SUCH_SURVEY;
        if (mark < 0 || mark > 5) return DraftSurvey.NO_SUCH_ITEM;
        return readings[survey][mark];
    }

    long setDensity(int survey, int density) {
        if (missing(survey)) return DraftSurvey.NO_SUCH_SURVEY;
        if (density < 950 || density > 1050) return DraftSurvey.OUT_OF_RANGE;
        long before = densities[survey];
        densities[survey] = density;
        return before;
    }

    long setDeduction(int survey, int kind, int weight) {
        if (missing(survey)) return DraftSurvey.NO_SUCH_SURVEY;
        if (kind < 0 || kind > 3) return DraftSurvey.NO_SUCH_ITEM;
        if (weight < 0 || weight > 9999999) return DraftSurvey.OUT_OF_RANGE;
        long before = deductions[survey][kind];
        deductions[survey][kind] = weight;
        return before;
    }

    /** F, M, A, trim and Q of a shifted survey. */
    private long[] drafts(int survey, long shift) {
        long[] sums = new long[3];
        for (int mark = 0; mark < 6; mark++) sums[mark / 2] += readings[survey][mark] + shift;
        long f = floor(sums[0], 2);
        long m = floor(sums[1], 2);
        long a = floor(sums[2], 2);
        return new long[] {f, m, a, a - f, floor(f + 6 * m + a, 8)};
    }

    long trim(int survey) {
        return missing(survey) ? DraftSurvey.NO_SUCH_SURVEY : drafts(survey, 0)[3];
    }

    long deflection(int survey) {
        if (missing(survey)) return DraftSurvey.NO_SUCH_SURVEY;
        long[] d = drafts(survey, 0);
        return d[1] - floor(d[0] + d[2], 2);
    }

    long heel(int survey) {
        return missing(survey) ? DraftSurvey.NO_SUCH_SURVEY : readings[survey][3] - readings[survey][2];
    }

    long quarterMean(int survey) {
        return missing(survey) ? DraftSurvey.NO_SUCH_SURVEY : drafts(survey, 0)[4];
    }

    /** First correction, second correction, displacement and net weight; null if the survey cannot be computed. */
    private long[] weights(int survey, long shift) {
        long[] d = drafts(survey, shift);
        long trim = d[3];
        long q = d[4];
        if (!covered(q)) return null;
        long first = floor(trim * value(1, q) * value(2, q), 100 * length);
        long q1 = q - 500 < rows.get(0)[0] ? rows.get(0)[0] : q - 500;
        long end = rows.get(rows.size() - 1)[0];
        long q2 = q + 500 > end ? end : q + 500;
        long second = floor(50 * trim * trim * (value(3, q2) - value(3, q1)), 1000 * length);
        long displacement = floor((value(0, q) + first + second) * densities[survey], 1025);
        long[] off = deductions[survey];
        return new long[] {first, second, displacement, displacement - off[0] - off[1] - off[2] - off[3]};
    }

    private long weight(int which, int survey, long shift) {
        if (missing(survey)) return DraftSurvey.NO_SUCH_SURVEY;
        long[] found = weights(survey, shift);
        return found == null ? DraftSurvey.NOT_COVERED : found[which];
    }

    long firstCorrection(int survey) {
        return weight(0, survey, 0);
    }

    long secondCorrection(int survey) {
        return weight(1, survey, 0);
    }

    long displacement(int survey, int shift) {
        if (missing(survey)) return DraftSurvey.NO_SUCH_SURVEY;
        if (shift < -1000 || shift > 1000) return DraftSurvey.OUT_OF_RANGE;
        return weight(2, survey, shift);
    }

    long netWeight(int survey) {
        return weight(3, survey, 0);
    }

    long cargo(int first, int second) {
        if (missing(first) || missing(second)) return DraftSurvey.NO_SUCH_SURVEY;
        long[] a = weights(first, 0);
        long[] b = weights(second, 0);
        return a == null || b == null ? DraftSurvey.NOT_COVERED : b[3] - a[3];
    }

    /** The lower and the upper bound, or an error code twice. */
    private long[] bounds(int first, int second) {
        if (missing(first) || missing(second)) {
            return new long[] {DraftSurvey.NO_SUCH_SURVEY, DraftSurvey.NO_SUCH_SURVEY};
        }
        long[][] all = {weights(first, -margin), weights(first, margin), weights(second, -margin),
            weights(second, margin)};
        for (long[] one : all) {
            if (one == null) return new long[] {DraftSurvey.NOT_COVERED, DraftSurvey.NOT_COVERED};
        }
        long light1 = all[0][3] < all[1][3] ? all[0][3] : all[1][3];
        long heavy1 = all[0][3] + all[1][3] - light1;
        long light2 = all[2][3] < all[3][3] ? all[2][3] : all[3][3];
        long heavy2 = all[2][3] + all[3][3] - light2;
        return new long[] {light2 - heavy1, heavy2 - light1};
    }

    long cargoLow(int first, int second) {
        return bounds(first, second)[0];
    }

    long cargoHigh(int first, int second) {
        return bounds(first, second)[1];
    }

    long draftFor(int displacement) {
        if (rows.isEmpty()) return DraftSurvey.NOT_COVERED;
        long end = rows.get(rows.size() - 1)[0];
        for (long draft = rows.get(0)[0]; draft <= end; draft++) {
            if (value(0, draft) >= displacement) return draft;
        }
        return DraftSurvey.NOT_COVERED;
    }

    long heaviest() {
        long best = DraftSurvey.NOT_COVERED;
        for (int survey = 3; survey >= 0; survey--) {
            long[] one = weights(survey, 0);
            if (one != null && (best < 0 || one[3] >= weights((int) best, 0)[3])) best = survey;
        }
        return best;
    }

    long rowCount() {
        return rows.size();
    }

    long digest() {
        List<Long> list = new ArrayList<>();
        list.add(rowCount());
        for (long[] row : rows) {
            for (long number : row) list.add(number);
        }
        for (int survey = 0; survey < 4; survey++) {
            for (int mark = 0; mark < 6; mark++) list.add(readings[survey][mark]);
            list.addAll(List.of(trim(survey), deflection(survey), heel(survey), quarterMean(survey),
                firstCorrection(survey), secondCorrection(survey), displacement(survey, -500),
                displacement(survey, 0), displacement(survey, 500), netWeight(survey)));
        }
        list.addAll(List.of(cargo(0, 1), cargoLow(0, 1), cargoHigh(0, 1), heaviest(), length, margin,
            (long) buffer.length()));
        for (char ch : buffer.toCharArray()) list.add((long) ch);
        long hash = 1759;
        for (long value : list) hash = 31 * hash + value;
        return hash;
    }
}
