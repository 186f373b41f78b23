/** Promises 37 to 44 at their edges: one test for each sentence that names one. */
public final class WhoEdgesTest {
    private static final int[] EXTREMES = {-1, Integer.MIN_VALUE, Integer.MAX_VALUE};
    private static final int[] MOST = {9, 99, 2, 9, 1};

    public static void main(String[] args) {
        heardEachWhat();
        heardOthers();
        heardTwelve();
        forgetNone();
        fitsNothingHeard();
        fitsPaceOrMore();
        fitsBuiltOrMore();
        fitsWay();
        fitsHeightOrMore();
        fitsWaitsOrNot();
        fitsNow();
        asksNoneFits();
        asksOfEqualOnesTheLeast();
        asksHighestOfEach();
        asksOfThoseWhoFit();
        asksNeverBuilt();
        sawOthers();
        sawTen();
        deniesNone();
        lawsEighty();
        lawsNothingWithout();
        lawsAtTheirEnds();
        looksNoneFits();
        looksOfEqualOnesTheLeast();
        Run.finish();
    }

    private static void heardEachWhat() {
        Run r = new Run("37: what 0 .. 4, each v to its end: how many such");
        int many = 0;
        for (int what = 0; what <= 4; what++) {
            many++;
            r.due("heard(" + what + ", 0)", many);
            many++;
            r.due("heard(" + what + ", " + MOST[what] + ")", many);
        }
        r.due("count(8)", 10);
    }

    private static void heardOthers() {
        Run r = new Run("37: Refused: others").come("9;9").live("s0", 1).due("heard(0, 4)", 1).due("line()", 2);
        for (int what = 0; what <= 4; what++) {
            r.still("heard(" + what + ", " + (MOST[what] + 1) + ")", -1);
            for (int v : EXTREMES) {
                r.still("heard(" + what + ", " + v + ")", -1);
            }
        }
        r.still("heard(5, 0)", -1);
        for (int what : EXTREMES) {
            r.still("heard(" + what + ", 0)", -1).still("heard(" + what + ", " + what + ")", -1);
        }
    }

    private static void heardTwelve() {
        Run r = new Run("37: Refused: 12").come("3;2");
        for (int i = 1; i <= 12; i++) {
            r.due("heard(0, " + (i < 12 ? 2 : 3) + ")", i);
        }
        r.due("line()", 2).still("heard(0, 9)", -1).still("heard(4, 1)", -1).still("heard(5, 0)", -1).due("count(8)", 12);
        r.due("fits()", 1).due("forget()", 12).due("fits()", 3).due("heard(0, 9)", 1);
    }

    private static void forgetNone() {
        Run r = new Run("38: how many there were").due("line()", 0).still("forget()", 0).due("heard(0, 9)", 1);
        r.due("forget()", 1).due("count(8)", 0).still("forget()", 0).asNew();
    }

    private static void fitsNothingHeard() {
        new Run("39: without CLIMBERS").question("fits()", 0).row(0).due("heard(0, 0)", 1).question("fits()", 0).row(0);
        new Run("39: nothing heard").come("1;1;1;1;1;1;1").question("fits()", 127).row(7);
        Run r = new Run("39: none fits").come("1;1").due("heard(0, 2)", 1).question("fits()", 0).row(0);
    }

    /** Who fits, if this alone was heard. */
    private static void fits(Run r, String heard, int due) {
        r.due("heard(" + heard + ")", 1).question("fits()", due).row(Integer.bitCount(due)).due("forget()", 1);
    }

    private static void fitsPaceOrMore() {
        Run r = new Run("37: 0: PACE is v or more").come("0;4;5;9");
        fits(r, "0, 0", 15);
        fits(r, "0, 1", 14);
        fits(r, "0, 4", 14);
        fits(r, "0, 5", 12);
        fits(r, "0, 6", 8);
        fits(r, "0, 9", 8);
    }

    private static void fitsBuiltOrMore() {
        Run r = new Run("37: 1: BUILT is v or more").come("9;9;9").live("s0b0n9n9n9n9n9n9n9n9n9n9n8", 13);
        r.live("s1b1n9n9n9n9n9n9n9n9n9n9n9", 13);
        // 0 has 98, 1 has 99, 2 has none.
        fits(r, "1, 0", 7);
        fits(r, "1, 1", 3);
        fits(r, "1, 98", 3);
        fits(r, "1, 99", 2);
    }

    private static void fitsWay() {
        Run r = new Run("37: 2: his WAY is v").come("9;9;9").live("s1s2b2", 3);
        fits(r, "2, 0", 1);
        fits(r, "2, 1", 2);
        fits(r, "2, 2", 4);
    }

    private static void fitsHeightOrMore() {
        Run r = new Run("37: 3: HEIGHT is v or more").come("9;9;9").live("t9s2n3w29s1n3", 6);
        // 0 is at the stile; 1 and 2, who waits there, are at 9.
        fits(r, "3, 0", 7);
        fits(r, "3, 1", 6);
        fits(r, "3, 9", 6);
        r.live("f11", 1);
        fits(r, "3, 8", 6);
        fits(r, "3, 9", 4);
    }

    private static void fitsWaitsOrNot() {
        Run r = new Run("37: 4: he waits (WAIT above 0; 1) or not (0)").come("9;9").live("w01", 1);
        fits(r, "4, 1", 1);
        fits(r, "4, 0", 2);
        r.due("hours(1)", 7);
        fits(r, "4, 1", 0);
        fits(r, "4, 0", 3);
    }

    private static void fitsNow() {
        Run r = new Run("39: who fit all that was heard now").come("9;9").due("heard(2, 1)", 1).due("heard(0, 9)", 2);
        r.question("fits()", 0).row(0).live("s1", 1).question("fits()", 2).row(1).due("undo()", 0).question("fits()", 0).row(0);
        r.due("sheet(2, 2, 9, -1)", 17).live("s0s1", 2).question("fits()", 1).row(1).come("9").question("fits()", 1).row(1);
    }

    private static void asksNoneFits() {
        Run r = new Run("40: -2: none fits").due("line()", 0).still("asks()", -2).come("1").due("line()", 1);
        r.question("asks()", 0).row(1).due("heard(0, 2)", 1).still("asks()", -2).due("forget()", 1).question("asks()", 0).row(1);
        Run f = new Run("40: with 12 heard").come("3;4");
        for (int i = 1; i <= 12; i++) {
            f.due("heard(0, 0)", i);
        }
        f.question("asks()", 4).row(1);
    }

    private static void asksOfEqualOnesTheLeast() {
        new Run("40: of equal ones the least, v").come("0;9").question("asks()", 1).row(1);
        new Run("40: of equal ones the least, what").come("0;9").live("s1w11", 2).question("asks()", 1).row(1);
        new Run("40: WAY ahead of HEIGHT and WAIT").come("5;5").live("s1n1w11", 3).question("asks()", 20).row(1);
        new Run("40: all alike").come("5;5;5;5;5;5;5").question("asks()", 0).row(7);
    }

    private static void asksHighestOfEach() {
        new Run("40: PACE 9").come("8;9").question("asks()", 9).row(1);
        new Run("40: WAY 2").come("5;5;5;5").live("s0s1b1s2b2", 5).question("asks()", 22).row(2);
        new Run("40: HEIGHT 9").come("9;9").live("t9s0s1n3f01", 5).question("asks()", 39).row(1);
        new Run("40: HEIGHT 1").come("9;9").live("t9s0s1n3f08f09", 6).question("asks()", 31).row(1);
        new Run("40: WAIT 0").come("5;5").live("s0s1w11", 3).question("asks()", 40).row(1);
    }

    private static void asksOfThoseWhoFit() {
        // 0 and 1 fit: PACES 3 and 7; PACES 5 and 9 of the others do not count.
        new Run("40: the fewest such CLIMBERS").come("3;7;5;9").live("s0s1", 2).due("heard(2, 1)", 1).question("asks()", 4)
            .row(1);
    }

    private static void asksNeverBuilt() {
        new Run("40: what (0, 2, 3, 4)").come("5;5").live("s0b0n9", 3).question("asks()", 0).row(2);
    }

    private static void sawOthers() {
        Run r = new Run("41: PACE p (0 .. 9), s (0 .. 3) STEPS; refused: others").due("saw(0, 0)", 1).due("saw(9, 3)", 2);
        r.due("saw(0, 3)", 3).due("saw(9, 0)", 4).due("line()", 0).still("saw(10, 0)", -1).still("saw(0, 4)", -1);
        for (int v : EXTREMES) {
            r.still("saw(" + v + ", 0)", -1).still("saw(0, " + v + ")", -1).still("saw(" + v + ", " + v + ")", -1);
        }
    }

    private static void sawTen() {
        Run r = new Run("41: Refused: 10");
        for (int i = 1; i <= 10; i++) {
            r.due("saw(9, " + (i < 10 ? 3 : 2) + ")", i);
        }
        r.due("later(0)", 7).still("saw(9, 3)", -1).still("saw(10, 3)", -1).due("count(9)", 10).question("laws()", 0).row();
        r.due("denies()", 10).due("saw(9, 3)", 1).question("laws()", 17).row(0, 1, 3);
    }

    private static void deniesNone() {
        Run r = new Run("42: how many there were").due("line()", 0).still("denies()", 0).due("saw(0, 0)", 1);
        r.due("denies()", 1).due("count(9)", 0).still("denies()", 0).asNew();
    }

    private static void lawsEighty() {
        new Run("43: Laws (80 of them)").question("laws()", 80).row(0, 1, 0);
    }

    private static void lawsNothingWithout() {
        Run r = new Run("43: nothing without").due("later(0)", 7).due("saw(0, 1)", 1).due("saw(9, 0)", 2);
        r.question("laws()", 0).row();
    }

    private static void lawsAtTheirEnds() {
        // c 0: nobody goes; 20 laws; a 0 with b 5 and PACE 4 too.
        Run z = new Run("43: c 0").due("saw(9, 0)", 1).question("laws()", 20).row(0, 1, 0);
        Run a = new Run("43: a 3, c 3").due("saw(0, 3)", 1).question("laws()", 5).row(3, 1, 3);
        // PACE 4 goes 0 by b 5 alone, PACE 9 goes 1: a 0, b 5, and c 1, 2 or 3.
        Run b = new Run("43: b 5").due("saw(4, 0)", 1).due("saw(9, 1)", 2).question("laws()", 3).row(0, 5, 1);
        Run o = new Run("43: b 1").due("saw(0, 0)", 1).due("saw(1, 1)", 2).due("saw(2, 2)", 3).question("laws()", 2);
        o.row(0, 1, 2).due("saw(3, 3)", 4).question("laws()", 1).row(0, 1, 3).question("looks()", 0).row(1);
    }

    private static void looksNoneFits() {
        Run r = new Run("44: -2: none fits").due("saw(0, 1)", 1).due("saw(9, 0)", 2).due("later(0)", 7).still("looks()", -2);
    }

    private static void looksOfEqualOnesTheLeast() {
        // Of the 5 laws with a 3, c 3 each PACE goes 3.
        new Run("44: of equal ones the least").due("saw(0, 3)", 1).question("looks()", 0).row(5);
        // a 0, b 5, c 1 .. 3: of PACES to 9 none goes more than 1.
        new Run("44: as many by each PACE").due("saw(4, 0)", 1).due("saw(9, 1)", 2).question("looks()", 0).row(3);
        // a 0, b 4 or 5, c 1 .. 3: PACE 4 goes 1 by b 4, 0 by b 5.
        Run r = new Run("44: the PACE that parts them").due("saw(3, 0)", 1).due("saw(5, 1)", 2);
        r.question("laws()", 6).row(0, 4, 1).question("looks()", 4).row(3);
        // a 1, c 3, b 1 .. 4: PACE 2 goes 3, 2, 1, 1.
        Run s = new Run("44: whatever STEPS it goes").due("saw(0, 1)", 1).due("saw(8, 3)", 2);
        s.question("laws()", 4).row(1, 1, 3).question("looks()", 2).row(2);
        // a 0, b 3, c 2 or 3: PACE 9 alone goes 3 by c 3.
        Run n = new Run("44: PACE 9").due("saw(2, 0)", 1).due("saw(3, 1)", 2).due("saw(6, 2)", 3);
        n.question("laws()", 2).row(0, 3, 2).question("looks()", 9).row(1);
    }
}
