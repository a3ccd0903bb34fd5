import java.util.Random;

/** Long random runs, always the same ones, in which every answer is compared with the model's. */
public final class ModelTest {
    private static final Check CHECK = new Check("ModelTest");
    private static final int RUNS = 4000;
    private static final int CALLS = 512;
    private static final int[] WILD = {Integer.MIN_VALUE, Integer.MIN_VALUE + 1, -1001, -1000, -1, 0, 1, 2, 3, 4, 5, 6,
        9, 10, 31, 32, 126, 127, 500, 949, 950, 1000, 1001, 1025, 1050, 1051, 9999, 10000, 30000, 30001, 400000, 400001,
        9999999, 10000000, 65536, Integer.MAX_VALUE - 1, Integer.MAX_VALUE};

    private final Random random;
    private final DraftSurvey x = new DraftSurvey();
    private final Model model = new Model();
    private final int wildness;
    private final int reach;
    private int calls = 0;

    private ModelTest(int run) {
        random = new Random(run);
        wildness = run % 7 == 0 ? 3 : 40;
        reach = new int[] {12, 300, 3000, 30001}[run % 4];
    }

    public static void main(String[] args) {
        for (int run = 0; run < RUNS && CHECK.wrongCount() < 20; run++) {
            ModelTest test = new ModelTest(run);
            while (test.calls < CALLS && CHECK.wrongCount() < 20) {
                test.step();
            }
        }
        CHECK.end();
    }

    /** Mostly a number from low to high, now and then any number at all. */
    private int pick(int low, int high) {
        if (random.nextInt(wildness) == 0) {
            return random.nextBoolean() ? WILD[random.nextInt(WILD.length)] : random.nextInt();
        }
        int choice = random.nextInt(12);
        if (choice == 0) return low;
        if (choice == 1) return high;
        return low + random.nextInt(high - low + 1);
    }

    private void step() {
        switch (random.nextInt(12)) {
            case 0: case 1: typeRow(); break;
            case 2: typeJunk(); break;
            case 3: case 4: readings(); break;
            case 5: settings(); break;
            case 6: table(); break;
            case 7: drafts(); break;
            case 8: case 9: weights(); break;
            case 10: cargo(); break;
            default: whole(); break;
        }
    }

    /** Behind the last promised call every answer is free. */
    private void due(String call, long got, long want) {
        calls++;
        if (calls <= CALLS) {
            CHECK.due(call, got, want);
        }
    }

    private void append(int ch) {
        due("append(" + ch + ")", x.append(ch), model.append(ch));
    }

    private void addRow() {
        due("errorPosition()", x.errorPosition(), model.errorPosition());
        due("addRow()", x.addRow(), model.addRow());
    }

    private void clearBuffer() {
        due("clearBuffer()", x.clearBuffer(), model.clearBuffer());
    }

    private void typeRow() {
        if (random.nextInt(3) > 0) clearBuffer();
        int draft = 0;
        int displacement = 0;
        if (model.rowCount() > 0) {
            draft = (int) model.rowDraft((int) model.rowCount() - 1);
            displacement = (int) model.tableValue(0, draft);
        }
        StringBuilder text = new StringBuilder();
        text.append(draft + random.nextInt(Math.max(1, reach / 3) + 1)).append(',');
        int room = random.nextInt(4) == 0 ? 1 : Math.max(1, (9999999 - displacement) / 3);
        text.append(displacement + random.nextInt(room)).append(',');
        text.append(random.nextInt(20001)).append(',');
        text.append(random.nextInt(200001) - 100000).append(',');
        text.append(random.nextInt(4) == 0 ? 0 : random.nextInt(200001));
        if (random.nextInt(12) == 0) {
            String signs = "0123456789,,--9 x";
            char sign = signs.charAt(random.nextInt(signs.length()));
            text.insert(random.nextInt(text.length() + 1), sign);
        }
        for (int i = 0; i < text.length(); i++) {
            append(text.charAt(i));
        }
        addRow();
    }

    private void typeJunk() {
        if (random.nextInt(3) == 0) clearBuffer();
        String signs = "0011223456789,,,,,-/:+.";
        int count = random.nextInt(14);
        for (int i = 0; i < count; i++) {
            append(random.nextInt(40) == 0 ? pick(32, 126) : signs.charAt(random.nextInt(signs.length())));
            due("errorPosition()", x.errorPosition(), model.errorPosition());
        }
        if (random.nextInt(4) == 0) addRow();
    }

    private void readings() {
        int survey = pick(0, 3);
        int base = random.nextInt(reach);
        int spread = random.nextInt(3) == 0 ? 30000 : random.nextInt(Math.max(2, reach / 2)) + 1;
        for (int mark = 0; mark < 6; mark++) {
            int at = random.nextInt(50) == 0 ? pick(0, 5) : mark;
            int draft = pick(base, Math.min(30000, base + random.nextInt(spread)));
            due("setReading(" + survey + ", " + at + ", " + draft + ")", x.setReading(survey, at, draft),
                model.setReading(survey, at, draft));
            due("reading(" + survey + ", " + at + ")", x.reading(survey, at), model.reading(survey, at));
        }
    }

    private void settings() {
        int survey = pick(0, 3);
        int length = pick(10000, 400000);
        due("setLength(" + length + ")", x.setLength(length), model.setLength(length));
        int margin = pick(0, 100);
        due("setMargin(" + margin + ")", x.setMargin(margin), model.setMargin(margin));
        int density = pick(950, 1050);
        due("setDensity(" + survey + ", " + density + ")", x.setDensity(survey, density),
            model.setDensity(survey, density));
        int kind = pick(0, 3);
        int weight = pick(0, random.nextBoolean() ? 9999999 : 1000);
        due("setDeduction(" + survey + ", " + kind + ", " + weight + ")", x.setDeduction(survey, kind, weight),
            model.setDeduction(survey, kind, weight));
        int mark = pick(0, 5);
        due("reading(" + survey + ", " + mark + ")", x.reading(survey, mark), model.reading(survey, mark));
    }

    private void table() {
        int row = pick(0, 10);
        due("rowDraft(" + row + ")", x.rowDraft(row), model.rowDraft(row));
        int column = pick(0, 3);
        int draft = pick(0, reach);
        due("tableValue(" + column + ", " + draft + ")", x.tableValue(column, draft), model.tableValue(column, draft));
        long end = model.rowCount() > 0 ? model.rowDraft((int) model.rowCount() - 1) : 0;
        int near = (int) Math.max(0, model.tableValue(0, (int) end)) + 1;
        int displacement = pick(0, near);
        due("draftFor(" + displacement + ")", x.draftFor(displacement), model.draftFor(displacement));
        if (model.rowCount() > 0) {
            int first = (int) model.tableValue(0, (int) model.rowDraft(0));
            due("draftFor(" + first + ")", x.draftFor(first), model.draftFor(first));
        }
        if (random.nextInt(12) == 0) due("clearTable()", x.clearTable(), model.clearTable());
    }

    private void drafts() {
        int survey = pick(0, 3);
        due("trim(" + survey + ")", x.trim(survey), model.trim(survey));
        due("deflection(" + survey + ")", x.deflection(survey), model.deflection(survey));
        due("heel(" + survey + ")", x.heel(survey), model.heel(survey));
        due("quarterMean(" + survey + ")", x.quarterMean(survey), model.quarterMean(survey));
    }

    private void weights() {
        int survey = pick(0, 3);
        due("firstCorrection(" + survey + ")", x.firstCorrection(survey), model.firstCorrection(survey));
        due("secondCorrection(" + survey + ")", x.secondCorrection(survey), model.secondCorrection(survey));
        int shift = pick(-Math.min(1000, reach / 4), Math.min(1000, reach / 4));
        due("displacement(" + survey + ", " + shift + ")", x.displacement(survey, shift),
            model.displacement(survey, shift));
        due("displacement(" + survey + ", 0)", x.displacement(survey, 0), model.displacement(survey, 0));
        due("netWeight(" + survey + ")", x.netWeight(survey), model.netWeight(survey));
    }

    private void cargo() {
        int first = pick(0, 3);
        int second = pick(0, 3);
        String at = "(" + first + ", " + second + ")";
        due("cargo" + at, x.cargo(first, second), model.cargo(first, second));
        due("cargoLow" + at, x.cargoLow(first, second), model.cargoLow(first, second));
        due("cargoHigh" + at, x.cargoHigh(first, second), model.cargoHigh(first, second));
    }

    private void whole() {
        due("heaviest()", x.heaviest(), model.heaviest());
        due("rowCount()", x.rowCount(), model.rowCount());
        due("digest()", x.digest(), model.digest());
        if (random.nextInt(3) == 0) clearBuffer();
    }
}
