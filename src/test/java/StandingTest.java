/** Promises 31 to 36: who stands where. */
public final class StandingTest {
    public static void main(String[] args) {
        lawyers();
        lawyersBelowTop();
        rope();
        line();
        nearest();
        stones();
        parties();
        Run.finish();
    }

    /** CLIMBERS at HEIGHTS that are their PACES times the HOURS. */
    private static Run at(String name, String paces, int hours) {
        Run r = new Run(name);
        int n = (paces.length() + 1) / 2;
        r.due("top(9)", 15).text(paces).due("climbers()", n).text("p").due("rule()", 0);
        for (int i = 0; i < n; i++) {
            r.due("starts(" + i + ")", i + 1);
        }
        return r.due("hours(" + hours + ")", 7);
    }

    private static void lawyers() {
        Run r = at("31 lawyers", "3;1;2;3;0", 3);
        r.question("lawyers(0)", 4).row(585).question("lawyers(1)", 4).row(293).question("lawyers(2)", 2).row(130);
        r.question("lawyers(3)", 2).row(65).question("lawyers(4)", 2).row(33).question("lawyers(5)", 1).row(16);
        r.question("lawyers(9)", 1).row(1).still("lawyers(10)", -1).still("lawyers(-1)", -1);
        new Run("31 nobody").question("lawyers(3)", 0).row(0);
    }

    private static void lawyersBelowTop() {
        Run r = new Run("31 0 .. TOP");
        r.due("top(2)", 15).text("9;9").due("climbers()", 2).due("starts(0)", 1).due("hours(1)", 7);
        r.question("lawyers(0)", 2).row(5).question("lawyers(1)", 1).row(2).question("lawyers(2)", 1).row(1);
    }

    private static void rope() {
        at("32 rope", "3;1;2;3;0", 1).question("rope()", 3).row(1, 2, 3);
        at("32 the least row", "2;1;3;2;3", 1).question("rope()", 3).row(1, 3, 4);
        at("32 the first of like ones", "1;1;2;2;2", 1).question("rope()", 2).row(0, 2);
        at("32 down alone", "3;2;1", 1).question("rope()", 1).row(0);
        new Run("32 nobody").question("rope()", 0).row();
    }

    private static void line() {
        at("33 line", "3;1;2;3;0", 3).question("line()", 5).row(0, 3, 2, 1, 4);
        at("33 like ones", "1;2;1;2", 1).question("line()", 4).row(1, 3, 0, 2);
        new Run("33 nobody").question("line()", 0).row();
    }

    private static void nearest() {
        at("34 nearest", "3;1;2;3;0", 3).question("nearest()", 0).row(0, 3);
        at("34 the least row", "3;1;2", 3).question("nearest()", 3).row(0, 2);
        at("34 one", "3", 3).still("nearest()", -2);
        new Run("34 nobody").still("nearest()", -2);
    }

    private static void stones() {
        Run r = new Run("35 stones");
        r.text("9;9;9").due("climbers()", 3);
        for (int i = 0; i < 3; i++) {
            int[] hours = {2, 3, 5};
            r.due("starts(" + i + ")", 1).due("backs(" + i + ")", 2).due("hours(" + hours[i] + ")", i);
        }
        r.question("stones(5)", 1).row(4, 2).question("stones(10)", 3).row(7, 1).question("stones(0)", 0).row(0, 1);
        r.question("stones(7)", 2).row(5, 1).still("stones(1)", -2).still("stones(999)", -2);
        r.still("stones(1000)", -1).still("stones(-1)", -1);
        Run z = new Run("35 none built").text("1;1;1").due("climbers()", 3);
        z.question("stones(0)", 0).row(0, 8);
        new Run("35 nobody").question("stones(0)", 0).row(0, 1).still("stones(1)", -2);
    }

    private static void parties() {
        Run r = new Run("36 parties").text("9;5;4;3").due("climbers()", 4).question("parties()", 3).row(1, 9);
        r.due("sheet(2, 4, 2, 0)", 8).question("parties()", 0).row(3, 4);
        r.due("sheet(2, 3, 1, 1)", 6).question("parties()", 0).row(3, 3);
        r.due("sheet(0, 0, 0, 0)", 0).question("parties()", 0).row(0, 0);
        new Run("36 one").text("7").due("climbers()", 1).question("parties()", 7).row(0, 0);
        new Run("36 nobody").question("parties()", 0).row(0, 0);
    }
}
