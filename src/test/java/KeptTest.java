/** Promises 50 to 53: kept, counts, the ROW. */
public final class KeptTest {
    public static void main(String[] args) {
        keep();
        again();
        count();
        row();
        rowStays();
        Run.finish();
    }

    private static void keep() {
        Run r = new Run("50 keep");
        r.still("keep(2)", 0).still("keep(-1)", 0).due("keep(0)", 1).due("keep(1)", 1).still("again(2)", 0);
        r.still("again(-1)", 0);
    }

    private static void again() {
        Run r = new Run("51 again");
        r.still("again(0)", 0).text("4;9").due("climbers()", 2).due("keep(0)", 1).due("starts(1)", 1).due("hours(1)", 7);
        r.due("waits(0, 3)", 3).due("top(9)", 15).due("keep(1)", 1).due("hours(20)", 1).due("sheet(2, 2, 1, 1)", 3);
        r.due("again(1)", 1).due("count(1)", 9).due("count(2)", 7).due("count(3)", 1).due("count(4)", 0).due("count(7)", 0);
        r.due("climber(1, 1)", 3).due("climber(1, 2)", 1).due("climber(0, 3)", 3).due("count(14)", 3).due("count(10)", 0);
        r.due("again(0)", 1).due("count(1)", 5).due("count(5)", 0).due("count(13)", 0).due("count(3)", 0);
        r.due("again(1)", 1).due("count(3)", 1).due("climbers()", 0).due("again(0)", 1).text("x").due("climbers()", -1);
        r.due("again(1)", 1).due("hours(1)", 7).text("1").due("climbers()", 1).still("again(0)", 0).still("again(1)", 0);
        r.due("keep(1)", 1).still("again(0)", 0).due("hours(1)", 7).due("again(1)", 1).due("count(3)", 2);
    }

    private static void count() {
        Run r = new Run("52 count");
        r.text("9;4;2").due("climbers()", 3).due("starts(0)", 1).due("starts(1)", 2).due("hours(4)", 0);
        r.due("waits(2, 7)", 7).due("waits(1, 2)", 2).due("heard(0, 1)", 1).due("saw(1, 1)", 1).due("saw(1, 1)", 2);
        r.due("sign(0)", 4);
        // 0 is DOWN; 1 is at 3; 2 waits.
        long[] due = {3, 5, 0, 4, 1, 2, 3, 1, 1, 2, 5, 2, 4, 9, 15, 6};
        for (int what = 0; what < due.length; what++) {
            r.still("count(" + what + ")", due[what]);
        }
        r.still("count(-1)", -1).still("count(16)", -1).still("count(2147483647)", -1);
    }

    private static void row() {
        Run r = new Run("53 row");
        r.none("row(0)").none("row(-1)").due("later(3)", 7).row(0, 0).none("row(2147483647)").none("row(-2147483648)");
        r.due("line()", 0).none("row(0)");
    }

    /** The ROW stays with calls that do not tell of it. */
    private static void rowStays() {
        Run r = new Run("53 the ROW stays");
        r.text("4;0;8").due("climbers()", 3).due("line()", 3);
        String[] calls = {"starts(0)", "waits(0, 1)", "backs(0)", "slips(0, 1)", "top(6)", "heard(0, 1)", "forget()",
            "saw(1, 1)", "denies()", "keep(0)", "undo()", "again(0)", "sheet(2, 3, 1, 1)", "sheet(3, 0, 0, 0)", "sign(0)",
            "end(0)", "climbers()", "rule()"};
        long[] due = {1, 1, 2, 0, 15, 1, 1, 1, 1, 1, 4, 1, 6, -3, 4, 1, 0, 0};
        for (int i = 0; i < calls.length; i++) {
            r.due(calls[i], due[i]).row(0, 1, 2);
        }
        r.text("x").due("day()", -1).row(0, 1, 2).text("p+").due("law()", -10002).row(0, 1, 2);
        r.text("1").due("climbers()", 1).row(0, 1, 2);
    }
}
