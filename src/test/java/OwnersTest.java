/** Promises 16 to 30: who owns it later, and what would make it so. */
public final class OwnersTest {
    public static void main(String[] args) {
        later();
        when();
        shares();
        order();
        empty();
        high();
        comes();
        crowd();
        changes();
        ways();
        peaks();
        bides();
        rivals();
        goes();
        ousts();
        Run.finish();
    }

    /** By HOURS: 0 is at 2 4 5 3 1 0; 1 stays; 2 is at 3 5 2 0; 3 is at 0 0 3 5 2 0. */
    private static Run four(String name) {
        Run r = new Run(name);
        r.text("4;0;8;9").due("climbers()", 4).due("starts(0)", 1).due("starts(2)", 2).due("starts(3)", 3);
        return r.due("waits(3, 2)", 2);
    }

    /** All have PACE 9: whoever sets out is DOWN in the fourth HOUR. */
    private static Run fast(String name, String climbers) {
        Run r = new Run(name);
        return r.text(climbers).due("climbers()", (climbers.length() + 1) / 2);
    }

    private static Run owned(Run r, int who) {
        return r.due("starts(" + who + ")", 1).due("backs(" + who + ")", 2).due("hours(1)", who);
    }

    private static void later() {
        Run r = four("16 later");
        r.question("later(0)", 7).row(0, 3).question("later(3)", 7).row(0, 3).question("later(4)", 2).row(1, 2);
        r.question("later(6)", 3).row(3, 0).question("later(99)", 3).row(3, 0);
        r.still("later(100)", -1).still("later(-1)", -1);
        new Run("16 nobody").question("later(3)", 7).row(0, 0);
    }

    private static void when() {
        Run r = four("17 when");
        r.question("when(2)", 4).row(2).question("when(3)", 6).row(94).still("when(0)", -2).still("when(1)", -2);
        r.still("when(4)", -1).still("when(-1)", -1).due("hours(4)", 2).question("when(2)", 0).row(2);
        r.due("hours(2)", 3).question("when(3)", 0).row(100).still("when(2)", -2);
        Run e = fast("17 the last of 100", "9").due("starts(0)", 1);
        for (int i = 0; i < 10; i++) {
            e.due("waits(0, 9)", 9 * (i + 1));
        }
        e.due("waits(0, 5)", 95).question("when(0)", 99).row(1).due("waits(0, 1)", 96).still("when(0)", -2);
    }

    private static void shares() {
        Run r = four("18 shares");
        r.question("shares(6)", 3).row(0, 0, 2, 1).question("shares(99)", 3).row(0, 0, 2, 94);
        r.question("shares(1)", 1).row(0, 0, 0, 0).still("shares(0)", -1).still("shares(100)", -1);
        r.due("hours(4)", 2).question("shares(1)", 0).row(0, 0, 1, 0);
        new Run("18 nobody").question("shares(99)", 99).row();
    }

    private static void order() {
        Run r = four("19 order");
        r.question("order(3)", 0).row().question("order(5)", 1).row(2).question("order(6)", 3).row(2, 0, 3);
        r.question("order(99)", 3).row(2, 0, 3).still("order(0)", -1).still("order(100)", -1);
    }

    private static void empty() {
        Run r = four("20 empty");
        r.question("empty()", 6).row(3).due("backs(0)", 2).question("empty()", 6).row(3).due("hours(6)", 3);
        r.question("empty()", 0).row(3).due("starts(1)", 1).text("0").due("rule()", 0).still("empty()", -2);
        Run e = fast("20 the last of 100", "9").due("starts(0)", 1);
        for (int i = 0; i < 10; i++) {
            e.due("waits(0, 9)", 9 * (i + 1));
        }
        e.due("waits(0, 5)", 95).question("empty()", 99).row(0).due("waits(0, 1)", 96).still("empty()", -2);
        new Run("20 nobody").question("empty()", 0).row(7);
    }

    private static void high() {
        Run r = four("21 high");
        r.question("high(0, 0)", 0).row(1, 0).question("high(0, 2)", 4).row(1, 0).question("high(0, 3)", 5).row(2, 0);
        r.question("high(3, 10)", 0).row(0, 5).question("high(2, 5)", 0).row(0, 2).question("high(2, 99)", 0).row(0, 2);
        r.still("high(0, 100)", -1).still("high(0, -1)", -1).still("high(4, 0)", -1).still("high(-1, 0)", -1);
    }

    private static void comes() {
        Run r = four("22 comes");
        r.question("comes(0)", 6).row(1).question("comes(2)", 4).row(1).still("comes(1)", -2).still("comes(4)", -1);
        r.still("comes(-1)", -1);
        Run e = fast("22 the last of 99", "9").due("starts(0)", 1);
        for (int i = 0; i < 10; i++) {
            e.due("waits(0, 9)", 9 * (i + 1));
        }
        e.due("waits(0, 5)", 95).question("comes(0)", 99).row(1).due("waits(0, 1)", 96).still("comes(0)", -2);
    }

    private static void crowd() {
        Run r = four("23 crowd");
        r.question("crowd(0)", 3).row(0, 0).question("crowd(99)", 3).row(0, 0).due("hours(2)", 7);
        r.question("crowd(99)", 1).row(0, 0).still("crowd(-1)", -1).still("crowd(100)", -1);
        Run m = fast("23 they meet", "0;4").due("crowd(5)", 0).row().due("starts(0)", 1).due("hours(1)", 7);
        m.due("starts(1)", 2).question("crowd(0)", 1).row(0, 0).question("crowd(1)", 2).row(2, 1);
        m.question("crowd(99)", 2).row(2, 1);
        Run h = fast("23 at 9", "9;9").due("top(9)", 15).due("starts(0)", 1).due("hours(3)", 7).due("waits(0, 5)", 5);
        h.question("crowd(5)", 1).row(9, 0).due("starts(1)", 2).question("crowd(5)", 2).row(9, 3);
        new Run("23 nobody").question("crowd(99)", 0).row();
    }

    private static void changes() {
        Run r = four("24 changes");
        r.question("changes(3)", 0).row(0, 7).question("changes(5)", 1).row(2, 2).question("changes(7)", 2).row(2, 2);
        r.question("changes(8)", 2).row(3, 3).question("changes(99)", 2).row(94, 3);
        r.still("changes(0)", -1).still("changes(100)", -1).due("hours(4)", 2).question("changes(1)", 0).row(1, 2);
        Run s = fast("24 the same again", "9;9");
        owned(s, 1).due("starts(0)", 1).due("starts(1)", 2).question("changes(9)", 0).row(9, 1);
    }

    private static void ways() {
        Run r = four("25 ways");
        r.question("ways(1)", 5).row(2, 0, 3, 0).question("ways(4)", 22).row(7, 0, 10, 5);
        r.question("ways(99)", 30).row(10, 0, 10, 10).still("ways(0)", -1).still("ways(100)", -1);
        new Run("25 nobody").question("ways(9)", 0).row();
    }

    private static void peaks() {
        Run r = fast("26 peaks", "9;9").due("starts(0)", 1);
        r.question("peaks(0, 5)", 2).row(4, 2).question("peaks(0, 1)", 2).row(0, 0).question("peaks(1, 60)", 2).row(0, 0);
        r.still("peaks(0, 0)", -1).still("peaks(0, 61)", -1).still("peaks(2, 5)", -1).still("peaks(-1, 5)", -1);
        r.due("hours(1)", 7).question("peaks(0, 5)", 3).row(4, 3);
        // 1 is OWNER till 0 is DOWN; the higher TOP is, the longer that takes: 3+3+3 up, 3+3+3 down.
        Run l = fast("26 later is better", "9;9");
        owned(l, 1).due("starts(0)", 1).question("peaks(1, 10)", 7).row(5, 3);
        l.question("peaks(0, 10)", 2).row(9, 7);
    }

    private static void bides() {
        Run r = fast("27 bides", "9").due("starts(0)", 1);
        r.question("bides(0, 10)", 0).row(7).question("bides(0, 60)", 0).row(31).still("bides(0, 3)", -2);
        r.still("bides(0, 0)", -2).still("bides(0, 61)", -1).still("bides(0, -1)", -1).still("bides(1, 5)", -1);
        r.due("hours(4)", 0).question("bides(0, 0)", 0).row(31);
        Run t = fast("27 the last down", "9;9").due("starts(0)", 1).due("starts(1)", 2);
        t.question("bides(0, 10)", 1).row(6).question("bides(1, 10)", 0).row(7);
        Run a = fast("27 above 99", "9").due("starts(0)", 1);
        for (int i = 1; i <= 11; i++) {
            a.due("waits(0, 9)", 9 * i);
        }
        a.due("hours(39)", 7).question("bides(0, 60)", -2).due("hours(6)", 7).question("bides(0, 60)", 0).row(3);
    }

    private static void rivals() {
        Run r = fast("28 rivals", "9;9;9;9").due("starts(0)", 1).due("starts(1)", 2).due("starts(2)", 3);
        r.question("rivals(0, 10)", 2).row(6).question("rivals(1, 10)", 1).row(4).question("rivals(2, 10)", 0).row(0);
        r.still("rivals(3, 10)", -2).still("rivals(0, 3)", -2).still("rivals(0, 61)", -1).still("rivals(0, -1)", -1);
        r.still("rivals(4, 10)", -1).still("rivals(-1, 10)", -1);
        // By k: 0 goes 3 as long as one is beside him, else he stays. 1 or 2 may be the one.
        Run k = fast("28 the least", "0;0;0").text("k*3").due("rule()", 0);
        k.due("starts(0)", 1).due("starts(1)", 2).due("starts(2)", 3);
        k.question("rivals(2, 4)", 0).row(0).question("rivals(1, 4)", 1).row(4).question("rivals(0, 4)", -2);
    }

    private static void goes() {
        Run r = fast("29 goes", "9;4;9");
        r.question("goes(10)", 0).row(7).question("goes(3)", 0).row(0).due("starts(0)", 1);
        r.question("goes(10)", 2).row(7).due("starts(2)", 2).question("goes(10)", 1).row(5);
        r.still("goes(0)", -1).still("goes(61)", -1).due("starts(1)", 3).still("goes(10)", -2).still("goes(61)", -1);
        Run w = fast("29 who waits", "9;9").due("waits(0, 2)", 2).question("goes(10)", 1).row(7);
        w.due("waits(1, 3)", 3).question("goes(10)", 0).row(5);
        new Run("29 nobody").still("goes(1)", -2).still("goes(61)", -1);
    }

    private static void ousts() {
        Run r = fast("30 ousts", "9;4;9");
        owned(r, 0).question("ousts(0, 10)", 1).row(2).question("ousts(0, 5)", 1).row(4).still("ousts(0, 3)", -2);
        r.still("ousts(0, 0)", -2).question("ousts(1, 3)", 0).row(0).still("ousts(0, 61)", -1);
        r.still("ousts(0, -1)", -1).still("ousts(3, 5)", -1).still("ousts(-1, 5)", -1);
        // He himself: 1 comes DOWN by himself behind 4 HOURS; 0 hinders him if he goes beside him.
        Run h = fast("30 two of them", "9;9;9").text("3-k*3").due("rule()", 0).due("starts(2)", 1);
        h.question("ousts(2, 4)", 1).row(1).question("ousts(1, 4)", 0).row(0);
    }
}
