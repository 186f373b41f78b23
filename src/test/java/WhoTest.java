/** Promises 37 to 44: who it was, laws of going. */
public final class WhoTest {
    public static void main(String[] args) {
        heard();
        heardTwelve();
        fits();
        asks();
        saw();
        laws();
        looks();
        Run.finish();
    }

    private static void heard() {
        Run r = new Run("37 heard");
        int[] most = {9, 99, 2, 9, 1};
        for (int what = 0; what < 5; what++) {
            r.due("heard(" + what + ", 0)", 2 * what + 1).due("heard(" + what + ", " + most[what] + ")", 2 * what + 2);
            r.still("heard(" + what + ", -1)", -1).still("heard(" + what + ", " + (most[what] + 1) + ")", -1);
        }
        r.still("heard(-1, 0)", -1).still("heard(5, 0)", -1).due("count(8)", 10);
        r.due("forget()", 10).due("count(8)", 0).due("forget()", 0);
    }

    private static void heardTwelve() {
        Run r = new Run("37 twelve");
        for (int i = 1; i <= 12; i++) {
            r.due("heard(0, 3)", i);
        }
        r.still("heard(0, 3)", -1).still("heard(9, 9)", -1).due("count(8)", 12).due("forget()", 12).due("heard(0, 3)", 1);
    }

    /** 0: PACE 4, up, 4; 1: PACE 0, none; 2: PACE 8, down, 5; 3: PACE 9, BUILT 3, waits. */
    private static Run four(String name) {
        Run r = new Run(name);
        r.text("4;0;8;9").due("climbers()", 4).due("starts(3)", 1).due("backs(3)", 2).due("hours(1)", 3);
        r.due("starts(0)", 1).due("starts(2)", 2).due("hours(2)", 3).due("waits(3, 1)", 1);
        return r;
    }

    private static void fits() {
        Run r = four("39 fits");
        r.question("fits()", 15).row(4);
        String[] heard = {"0, 0", "0, 4", "0, 5", "0, 9", "1, 0", "1, 3", "1, 4", "2, 0", "2, 1", "2, 2", "3, 0", "3, 4",
            "3, 5", "3, 6", "4, 0", "4, 1"};
        int[] due = {15, 13, 12, 8, 15, 8, 0, 10, 1, 4, 15, 5, 4, 0, 7, 8};
        for (int i = 0; i < heard.length; i++) {
            r.due("heard(" + heard[i] + ")", 1).question("fits()", due[i]).row(Integer.bitCount(due[i]));
            r.due("forget()", 1);
        }
        r.due("heard(0, 4)", 1).due("heard(3, 4)", 2).question("fits()", 5).row(2).due("heard(2, 2)", 3);
        r.question("fits()", 4).row(1).due("heard(4, 1)", 4).question("fits()", 0).row(0);
        // Who fits is told as all is now.
        r.due("forget()", 4).due("heard(3, 5)", 1).due("slips(2, 1)", 4).question("fits()", 0).row(0);
    }

    private static void asks() {
        Run r = four("40 asks");
        // PACES 4 0 8 9: PACE 5 or more parts them 2 to 2.
        r.question("asks()", 5).row(2).due("heard(0, 8)", 1).question("asks()", 9).row(1).due("heard(0, 9)", 2);
        r.question("asks()", 0).row(1).due("heard(2, 1)", 3).still("asks()", -2);
        Run p = new Run("40 by WAY").text("5;5;5;5").due("climbers()", 4).due("starts(0)", 1).due("starts(1)", 2);
        p.question("asks()", 20).row(2).due("backs(1)", 2).question("asks()", 20).row(2);
        p.due("starts(2)", 3).due("starts(3)", 4).due("backs(3)", 2).question("asks()", 21).row(2);
        Run h = new Run("40 by HEIGHT").text("5;5;5;5").due("climbers()", 4).due("starts(0)", 1).due("starts(1)", 2);
        h.due("hours(1)", 7).due("starts(2)", 3).due("starts(3)", 4).question("asks()", 31).row(2);
        Run w = new Run("40 by waiting").text("5;5").due("climbers()", 2).question("asks()", 0).row(2);
        w.due("waits(0, 1)", 1).question("asks()", 40).row(1);
        new Run("40 nobody").still("asks()", -2);
    }

    private static void saw() {
        Run r = new Run("41 saw");
        r.still("saw(10, 0)", -1).still("saw(-1, 0)", -1).still("saw(0, 4)", -1).still("saw(0, -1)", -1);
        r.due("saw(0, 0)", 1).due("saw(9, 3)", 2).due("count(9)", 2).due("denies()", 2).due("denies()", 0);
        for (int i = 1; i <= 10; i++) {
            r.due("saw(9, 3)", i);
        }
        r.still("saw(9, 3)", -1).still("saw(10, 3)", -1).due("count(9)", 10).due("denies()", 10).due("count(9)", 0);
        r.due("saw(9, 3)", 1);
    }

    private static void laws() {
        Run r = new Run("43 laws");
        r.question("laws()", 80).row(0, 1, 0).due("saw(0, 1)", 1).question("laws()", 25).row(1, 1, 1);
        // a is 1; c is 2, or 3 with b 3, 4, 5.
        r.due("saw(5, 2)", 2).question("laws()", 8).row(1, 1, 2).due("saw(9, 2)", 3).question("laws()", 6).row(1, 1, 2);
        r.due("saw(9, 3)", 4).question("laws()", 0).row();
        r.due("denies()", 4).question("laws()", 80).row(0, 1, 0);
        r.due("saw(9, 3)", 1).question("laws()", 17).row(0, 1, 3);
    }

    private static void looks() {
        Run r = new Run("44 looks");
        r.due("saw(0, 1)", 1).due("saw(5, 2)", 2);
        // Left are a 1, c 2, b 1 .. 5, and a 1, c 3, b 3 .. 5: PACE 3 goes 2 by four of them, 1 by the others.
        r.due("laws()", 8).question("looks()", 3).row(4).due("denies()", 2);
        r.due("saw(0, 0)", 1).due("saw(4, 1)", 2).due("laws()", 8).due("saw(4, 2)", 3).still("looks()", -2);
        r.due("denies()", 3).question("looks()", 8).row(22).due("saw(1, 0)", 1).due("saw(3, 1)", 2).question("looks()", 9);
        r.row(2).due("denies()", 2).due("saw(0, 0)", 1).due("saw(1, 1)", 2).due("saw(9, 3)", 3).question("laws()", 1);
        r.row(0, 1, 3).question("looks()", 0).row(1);
        r.due("denies()", 3).due("saw(0, 3)", 1).due("laws()", 5).row(3, 1, 3).question("looks()", 0).row(5);
    }
}
