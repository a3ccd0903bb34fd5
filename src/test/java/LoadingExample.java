/** The cargo that a ship has loaded, from survey 0 before and survey 1 after the loading. */
public final class LoadingExample {
    public static void main(String[] args) {
        DraftSurvey ship = new DraftSurvey();
        addRow(ship, "4000,180000,4800,-4000,5800"); // draft, displacement, TPC, LCF, MTC
        addRow(ship, "7000,330000,5100,-1500,6400");
        addRow(ship, "10000,495000,5500,2000,7600");
        ship.setLength(176000);

        int[][] readings = {{4300, 4320, 5000, 5040, 5900, 5910}, {9400, 9410, 9450, 9480, 9600, 9610}};
        for (int survey = 0; survey < 2; survey++) {
            for (int mark = 0; mark < 6; mark++) {
                ship.setReading(survey, mark, readings[survey][mark]);
            }
        }
        ship.setDensity(0, 1020);
        ship.setDensity(1, 1018);
        ship.setDeduction(0, 0, 95000); // ballast, pumped out while the cargo came in
        ship.setDeduction(0, 1, 12000); // fuel
        ship.setDeduction(1, 1, 11700);

        print("trim before and after", ship.trim(0), ship.trim(1));
        print("net weight before and after", ship.netWeight(0), ship.netWeight(1));
        print("cargo", ship.cargo(0, 1));
        ship.setMargin(10); // each reading may be wrong by one centimetre
        print("cargo at least and at most", ship.cargoLow(0, 1), ship.cargoHigh(0, 1));
        print("survey 2, never set", ship.cargo(0, 2));
    }

    private static void addRow(DraftSurvey ship, String row) {
        for (char ch : row.toCharArray()) {
            ship.append(ch);
        }
        if (ship.addRow() < 0) { // the buffer is as it was; errorPosition() tells how far it can be read
            System.out.println("refused: " + row);
            ship.clearBuffer();
        }
    }

    private static void print(String what, long... answers) {
        StringBuilder line = new StringBuilder(what).append(':');
        for (long answer : answers) {
            line.append(' ').append(answer == DraftSurvey.NOT_COVERED ? "not covered by the table" : answer);
        }
        System.out.println(line);
    }
}
