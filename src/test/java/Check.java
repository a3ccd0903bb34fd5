/** Counts the answers that are not as due, and ends a test with exit code 1 if there was one. */
final class Check {
    private final String title;
    private int checked = 0;
    private int wrong = 0;

    Check(String title) {
        this.title = title;
    }

    void due(String call, long got, long want) {
        checked++;
        if (got != want) {
            wrong++;
            System.out.println(title + ": " + call + " answered " + got + ", due is " + want);
        }
    }

    void dueText(String what, String got, String want) {
        due(what + " (" + got + ", due " + want + ")", got.equals(want) ? 1 : 0, 1);
    }

    void end() {
        System.out.println(title + ": " + checked + " checked, " + wrong + " wrong");
        if (wrong != 0 || checked == 0) {
            System.exit(1);
        }
    }

    int wrongCount() {
        return wrong;
    }

    int checkedCount() {
        return checked;
    }

    /** Appends the characters one by one; each must be taken. */
    void type(DraftSurvey x, String text) {
        due("clearBuffer() before " + text, x.clearBuffer(), 0);
        for (int i = 0; i < text.length(); i++) {
            due("append of '" + text.charAt(i) + "' in " + text, x.append(text.charAt(i)), i + 1);
        }
    }

    void row(DraftSurvey x, String text) {
        long rows = x.rowCount();
        type(x, text);
        due("addRow() of " + text, x.addRow(), rows + 1);
    }

    void drafts(DraftSurvey x, int survey, int forward, int midship, int aft) {
        int[] readings = {forward, forward, midship, midship, aft, aft};
        for (int mark = 0; mark < 6; mark++) {
            x.setReading(survey, mark, readings[mark]);
            due("reading(" + survey + ", " + mark + ")", x.reading(survey, mark), readings[mark]);
        }
    }
}
