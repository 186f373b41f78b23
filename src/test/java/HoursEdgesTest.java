/** Promises 9 to 15 at their edges: one test for each sentence that names one. */
public final class HoursEdgesTest {
    private static final int[] NO_CLIMBER_OF_TWO = {-1, 2, 6, 7, Integer.MIN_VALUE, Integer.MAX_VALUE};

    public static void main(String[] args) {
        hoursZeroToSixty();
        hoursNobody();
        hoursWhole();
        startsNoneSuch();
        startsHasOne();
        startsEachOfSeven();
        backsNoneSuch();
        backsHasNone();
        backsAtBothEnds();
        waitsOneToNine();
        waitsTo99();
        waitsNoneSuch();
        slipsOneToNine();
        slipsToZeroAtMost();
        slipsDownInTheNextHour();
        slipsNoWay();
        slipsNoneSuch();
        dayEmpty();
        dayWrongSign();
        dayEndTooEarly();
        daySixtySigns();
        dayEachAct();
        dayTillOneCannotBe();
        dayWithoutClimbers();
        dayNothingIsDone();
        undoNone();
        undoOfEach();
        undoOfAllSeven();
        undoTwelve();
        undoSuchAsWereDone();
        undoHoursOfOneAndMore();
        undoDayAsOne();
        undoLeavesTheRest();
        undoForgottenByClimbers();
        undoForgottenByAgain();
        Run.finish();
    }

    private static void hoursZeroToSixty() {
        Run r = new Run("9: n HOURS (0 .. 60); refused: another n").come("9").live("s0", 1).due("line()", 1);
        int[] others = {-1, 61, 100, Integer.MIN_VALUE, Integer.MAX_VALUE};
        for (int n : others) {
            r.still("hours(" + n + ")", -1);
        }
        r.due("hours(0)", 7).row(0, 1).due("count(3)", 0).due("hours(60)", 0).row(1, 0).due("count(3)", 60);
        r.due("climber(0, 4)", 57).due("hours(1)", 0).due("count(3)", 61);
    }

    private static void hoursNobody() {
        new Run("9: 7: nobody").due("hours(0)", 7).row(0, 0).due("hours(60)", 7).row(0, 0).due("count(3)", 60);
        new Run("9: 7: nobody yet").come("9").live("s0", 1).due("hours(3)", 7).row(0, 1).due("hours(1)", 0).row(1, 0);
    }

    private static void hoursWhole() {
        Run r = new Run("9: how many came DOWN in these").come("9;9;9;9;9;9;9").live("s0s1s2s3s4s5s6", 7);
        r.due("hours(4)", 6).row(7, 0).due("hours(60)", 6).row(0, 0).due("count(4)", 7);
    }

    private static void startsNoneSuch() {
        Run n = new Run("10: NONE: none such, without CLIMBERS").due("line()", 0).still("starts(0)", -1);
        Run r = new Run("10: NONE: none such").come("9;9").live("s0n1", 2).due("line()", 2);
        for (int who : NO_CLIMBER_OF_TWO) {
            n.still("starts(" + who + ")", -1);
            r.still("starts(" + who + ")", -1);
        }
    }

    private static void startsHasOne() {
        Run r = new Run("10: -2: he has one").come("9;9").due("starts(0)", 1).due("line()", 2).still("starts(0)", -2);
        r.due("backs(0)", 2).still("starts(0)", -2).due("starts(1)", 2).still("starts(1)", -2).due("hours(1)", 0);
        r.due("starts(0)", 2).due("climber(0, 2)", 1);
    }

    private static void startsEachOfSeven() {
        Run r = new Run("10: how many have a WAY then").come("1;1;1;1;1;1;1");
        for (int i = 0; i < 7; i++) {
            r.due("starts(" + i + ")", i + 1).due("climber(" + i + ", 2)", 1).due("climber(" + i + ", 1)", 0);
        }
        r.due("count(5)", 127);
    }

    private static void backsNoneSuch() {
        Run n = new Run("11: NONE: none such, without CLIMBERS").due("line()", 0).still("backs(0)", -1);
        Run r = new Run("11: NONE: none such").come("9;9").live("s0s1n1", 3).due("line()", 2);
        for (int who : NO_CLIMBER_OF_TWO) {
            n.still("backs(" + who + ")", -1);
            r.still("backs(" + who + ")", -1);
        }
    }

    private static void backsHasNone() {
        Run r = new Run("11: -2: he has none").come("9;9").due("line()", 2).still("backs(0)", -2).still("backs(1)", -2);
        r.live("s1", 1).still("backs(0)", -2).due("backs(1)", 2).due("backs(1)", 1).due("backs(1)", 2).due("hours(1)", 1);
        r.due("line()", 2).still("backs(1)", -2);
    }

    private static void backsAtBothEnds() {
        Run t = new Run("11: turns round at TOP").come("9").live("s0n2", 2).due("climber(0, 2)", 2).due("backs(0)", 1);
        t.due("climber(0, 1)", 5).due("hours(1)", 7).due("climber(0, 1)", 5).due("climber(0, 2)", 2);
        Run z = new Run("11: turns round at 0").come("0").live("s0", 1).due("backs(0)", 2).due("climber(0, 1)", 0);
        z.due("hours(1)", 0).row(1, 0);
    }

    private static void waitsOneToNine() {
        Run r = new Run("12: n (1 .. 9) HOURS more").come("9").live("s0", 1).due("line()", 1);
        int[] others = {0, 10, -1, 99, Integer.MIN_VALUE, Integer.MAX_VALUE};
        for (int n : others) {
            r.still("waits(0, " + n + ")", -1);
        }
        r.due("waits(0, 1)", 1).due("waits(0, 9)", 10);
        for (int n : others) {
            r.still("waits(0, " + n + ")", -1);
        }
    }

    private static void waitsTo99() {
        Run r = new Run("12: WAIT (99 at most)").come("9;9");
        for (int i = 1; i <= 10; i++) {
            r.due("waits(0, 9)", 9 * i);
        }
        r.due("keep(0)", 1).due("waits(0, 8)", 98).due("waits(0, 1)", 99).due("waits(0, 1)", 99).due("waits(0, 9)", 99);
        r.due("again(0)", 1).due("waits(0, 9)", 99).due("again(0)", 1).due("waits(0, 8)", 98).due("waits(0, 9)", 99);
        r.due("climber(0, 3)", 99).due("climber(1, 3)", 0).due("hours(60)", 7).due("climber(0, 3)", 39);
        r.due("hours(39)", 7).due("climber(0, 3)", 0);
    }

    private static void waitsNoneSuch() {
        Run n = new Run("12: NONE: none such, without CLIMBERS").due("line()", 0).still("waits(0, 1)", -1);
        Run r = new Run("12: NONE: none such").come("9;9").live("s0n1", 2).due("line()", 2);
        for (int who : NO_CLIMBER_OF_TWO) {
            n.still("waits(" + who + ", 1)", -1);
            r.still("waits(" + who + ", 1)", -1).still("waits(" + who + ", 0)", -1);
        }
        r.due("waits(1, 1)", 1);
    }

    private static void slipsOneToNine() {
        Run r = new Run("13: n (1 .. 9)").come("9").due("top(9)", 15).live("s0n3", 2).due("line()", 1);
        int[] others = {0, 10, -1, Integer.MIN_VALUE, Integer.MAX_VALUE};
        for (int n : others) {
            r.still("slips(0, " + n + ")", -1);
        }
        r.due("keep(0)", 1).due("slips(0, 1)", 8).due("slips(0, 2)", 6).due("again(0)", 1).due("slips(0, 9)", 0);
        r.due("again(0)", 1).due("slips(0, 8)", 1).due("climber(0, 2)", 2);
    }

    private static void slipsToZeroAtMost() {
        Run r = new Run("13: down (0 at most), his WAY is down then: HEIGHT").come("9").live("s0n1", 2).due("keep(0)", 1);
        r.due("slips(0, 2)", 1).due("climber(0, 1)", 1).due("climber(0, 2)", 2).due("again(0)", 1).due("slips(0, 3)", 0);
        r.due("climber(0, 2)", 2).due("again(0)", 1).due("slips(0, 4)", 0).due("climber(0, 1)", 0).due("again(0)", 1);
        r.due("slips(0, 9)", 0).due("slips(0, 9)", 0).due("count(6)", 0);
        Run z = new Run("13: at 0 already").come("9").live("s0", 1).due("slips(0, 1)", 0).due("climber(0, 2)", 2);
    }

    private static void slipsDownInTheNextHour() {
        Run r = new Run("13: at 0 he is DOWN in the next HOUR").come("9").live("s0n1", 2).due("slips(0, 3)", 0);
        r.due("count(4)", 0).due("count(2)", 7).due("hours(1)", 0).row(1, 0).due("climber(0, 2)", 0);
        Run w = new Run("13: also if he waits").come("9").live("s0n1w05", 3).due("slips(0, 3)", 0).due("hours(1)", 0);
        w.row(1, 0).due("climber(0, 3)", 4).due("climber(0, 4)", 1);
        Run a = new Run("13: above 0 he is not").come("9").live("s0n1w05", 3).due("slips(0, 2)", 1).due("hours(5)", 7);
        a.row(0, 1).due("hours(1)", 0);
    }

    private static void slipsNoWay() {
        Run r = new Run("13: -2: he has no WAY").come("9;9").live("s0", 1).due("line()", 2).still("slips(1, 1)", -2);
        r.still("slips(1, 9)", -2).due("slips(0, 1)", 0).due("hours(1)", 0).due("line()", 2).still("slips(0, 1)", -2);
    }

    private static void slipsNoneSuch() {
        Run n = new Run("13: NONE: none such, without CLIMBERS").due("line()", 0).still("slips(0, 1)", -1);
        Run r = new Run("13: NONE: none such").come("9;9").live("s0s1n1", 3).due("line()", 2);
        for (int who : NO_CLIMBER_OF_TWO) {
            n.still("slips(" + who + ", 1)", -1);
            r.still("slips(" + who + ", 1)", -1).still("slips(" + who + ", 0)", -1);
        }
    }

    private static void dayEmpty() {
        Run r = new Run("14: an empty one: nothing").question("day()", 0).row(0, 0).come("9").live("s0n3", 2);
        r.question("day()", 0).row(0, 3).due("count(10)", 1);
    }

    private static void dayWrongSign() {
        Run r = new Run("14: the sign at p can't stand there").come("9;9").live("s0", 1).due("line()", 2);
        String[] texts = {"x", "0", "n/", "n:", "sx", "b:", "t/", "wx", "w/1", "fx", "w0/", "w00", "w0:", "f00", "f0x",
            "n1 n1", "n12", "s0x", "w011", "f099", "t55", "n1s0b0w01f01t5;"};
        int[] at = {0, 0, 1, 1, 1, 1, 1, 1, 1, 1, 2, 2, 2, 2, 2, 2, 2, 2, 3, 3, 2, 14};
        for (int i = 0; i < texts.length; i++) {
            r.text(texts[i]).emptied("day()", -1 - at[i]);
        }
    }

    private static void dayEndTooEarly() {
        Run r = new Run("14: its end, if it ends too early").come("9;9").live("s0", 1).due("line()", 2);
        String[] texts = {"n", "s", "b", "w", "w0", "f", "f0", "t", "n1s", "n1w0", "w01f", "f09w9"};
        for (String text : texts) {
            r.text(text).emptied("day()", -1 - text.length());
        }
    }

    private static void daySixtySigns() {
        String sixty = "n1".repeat(30);
        String fifty8 = "n1".repeat(29);
        new Run("14: 60 signs").live(sixty, 30).row(0, 30);
        new Run("14: 60 signs, 20 ACTS").come("9").live("w01".repeat(20), 20).row(0, 0).due("climber(0, 3)", 20);
        new Run("14: 59 signs").come("9").live("n1".repeat(28) + "w09", 29).row(0, 28).due("climber(0, 3)", 9);
        String[] behind = {"n", "n1", "x", "0", "n1".repeat(10)};
        for (String more : behind) {
            Run r = new Run("14: 60, if it has more and the first 60 could go on or end").due("line()", 0);
            r.text(sixty + more).emptied("day()", -61).text(fifty8 + "w0" + more).emptied("day()", -61);
        }
        Run e = new Run("14: its end at 59 and 60").text(fifty8 + "n").emptied("day()", -60);
        e.text(fifty8 + "w0").emptied("day()", -61).text(fifty8 + "w01").emptied("day()", -61);
        e.text(fifty8 + "nx1").emptied("day()", -60).text("x" + sixty).emptied("day()", -1);
    }

    private static void dayEachAct() {
        Run n = new Run("14: n and a digit").live("n0", 1).row(0, 0).live("n9", 1).row(0, 9).due("count(3)", 9);
        Run t = new Run("14: t and a digit").live("t2", 1).due("count(1)", 2).live("t9", 1).due("count(1)", 9);
        t.live("t1", 0).row(1, 0).live("t0", 0).row(1, 0).live("t9", 0).row(1, 0);
        Run s = new Run("14: s, b, w, f of the last climber").come("0;0;0;0;0;0;9").live("s6b6b6n1w69f61w61", 7).row(0, 1);
        s.due("climber(6, 1)", 2).due("climber(6, 2)", 2).due("climber(6, 3)", 10).due("count(5)", 64);
        s.live("f69", 1).due("climber(6, 1)", 0).due("count(10)", 2);
    }

    private static void dayTillOneCannotBe() {
        String[] cannot = {"s0", "s7", "s9", "b1", "b7", "w71", "w99", "f11", "f71", "t5", "t2", "t0", "t1"};
        for (String act : cannot) {
            Run r = new Run("14: till one can't be (" + act + ")").come("9;1;1;1;1;1;1").live("s0n1", 2);
            r.due("climber(0, 1)", 3).live("n1b0" + act + "n9s1", 2).row(1, 2).due("climber(0, 2)", 1).due("count(5)", 1);
            r.due("count(10)", 2).due("undo()", 1).due("climber(0, 1)", 3).due("count(3)", 1);
            r.text(act + "n9").read("day()", 0).row(1, 1).due("count(10)", 1);
        }
    }

    private static void dayWithoutClimbers() {
        Run r = new Run("14: no CLIMBERS").live("n3s0n1", 1).row(1, 3).text("b0").read("day()", 0).row(1, 3);
        r.text("w01").read("day()", 0).row(1, 3).text("f01").read("day()", 0).row(1, 3).live("t6n1", 2).row(0, 4);
    }

    private static void dayNothingIsDone() {
        Run r = new Run("14: nothing is done then").come("9").due("line()", 1).text("s0n9x").emptied("day()", -5);
        r.text("s0n9w0").emptied("day()", -7).text("t9".repeat(31)).emptied("day()", -61).due("count(10)", 0);
    }

    private static void undoNone() {
        Run r = new Run("15: Refused: none").still("undo()", -1).come("9").due("line()", 1).still("undo()", -1);
        r.live("s0", 1).due("undo()", 0).still("undo()", -1).still("undo()", -1);
    }

    /** Ahead of it: 0 at 3, up; 1 is OWNER and has BUILT 2; TOP 5; HOUR 2. */
    private static Run two(String name) {
        return new Run(name).come("9;9").live("s1b1n1s0n1", 5);
    }

    private static void undoOfEach() {
        String[] calls = {"top(9)", "hours(1)", "hours(60)", "starts(1)", "backs(0)", "waits(0, 1)", "slips(0, 1)"};
        long[] due = {15, 1, 0, 2, 2, 1, 2};
        for (int i = 0; i < calls.length; i++) {
            two("15: undone: " + calls[i]).due("keep(0)", 1).due("line()", 2).undone(calls[i], due[i], 1);
        }
        two("15: undone: day()").due("keep(0)", 1).due("line()", 2).text("t9w01n3s1f19n1b0").undone("day()", 7, 1);
    }

    private static void undoOfAllSeven() {
        Run r = new Run("15: all of CLIMBERS are as ahead of it").come("1;2;3;4;5;6;7").due("top(9)", 15).by("p");
        r.live("s0b0n1s1b1n2s2b2n3s3b3n4s4b4n5s5b5n6s6b6n7", 21).live("s0s1s2s3s4s5s6n2", 8);
        r.live("f31f42f53f64w11w22w33w44w55w66", 10);
        int[] heights = {2, 4, 6, 5, 4, 3, 2};
        for (int i = 0; i < 7; i++) {
            r.due("climber(" + i + ", 1)", heights[i]).due("climber(" + i + ", 2)", i < 3 ? 1 : 2);
            r.due("climber(" + i + ", 3)", i).due("climber(" + i + ", 4)", i < 6 ? i + 1 : 9);
        }
        r.text("n9b0t8").undone("day()", 3, 4).text("b0").undone("day()", 1, 4).due("keep(1)", 1).live("n9", 1);
        r.due("again(1)", 1);
        for (int i = 0; i < 7; i++) {
            r.due("climber(" + i + ", 1)", heights[i]).due("climber(" + i + ", 2)", i < 3 ? 1 : 2);
            r.due("climber(" + i + ", 3)", i).due("climber(" + i + ", 4)", i < 6 ? i + 1 : 9);
        }
    }

    private static void undoTwelve() {
        Run r = new Run("15: of 12 that are kept, the latest ones");
        for (int i = 1; i <= 12; i++) {
            r.due("hours(1)", 7).due("count(10)", i);
        }
        r.due("hours(1)", 7).due("count(10)", 12).due("hours(1)", 7).due("count(10)", 12);
        for (int i = 11; i >= 0; i--) {
            r.due("undo()", i).due("count(3)", i + 2).due("count(10)", i);
        }
        r.still("undo()", -1);
        for (int i = 1; i <= 30; i++) {
            r.due("hours(2)", 7);
        }
        for (int i = 11; i >= 7; i--) {
            r.due("undo()", i).due("count(3)", 2 + 2 * (i + 19 - 1));
        }
        r.due("hours(1)", 7).due("count(10)", 8).due("undo()", 7).due("undo()", 6).due("count(3)", 2 + 2 * 24);
    }

    private static void undoSuchAsWereDone() {
        Run r = two("15: such as were done").due("line()", 2).still("top(5)", -2).still("top(2)", -3).still("top(1)", -1);
        r.still("hours(61)", -1).still("starts(0)", -2).still("starts(2)", -1).still("backs(1)", -2).still("backs(2)", -1);
        r.still("waits(0, 0)", -1).still("slips(1, 1)", -2).still("slips(0, 0)", -1).text("s0").read("day()", 0);
        r.text("x").emptied("day()", -1).due("count(10)", 1);
        Run w = new Run("15: waits() that changes nothing is done").come("9");
        for (int i = 0; i < 11; i++) {
            w.due("waits(0, 9)", 9 * (i + 1));
        }
        w.due("waits(0, 1)", 99).due("count(10)", 12).due("undo()", 11).due("climber(0, 3)", 99).due("undo()", 10);
        w.due("climber(0, 3)", 90);
    }

    private static void undoHoursOfOneAndMore() {
        Run r = two("15: hours() of 1 and more").question("hours(0)", 1).due("count(10)", 1).due("hours(1)", 1);
        r.due("count(10)", 2).question("hours(0)", 1).due("undo()", 1).due("count(3)", 2);
    }

    private static void undoDayAsOne() {
        Run r = two("15: day() of which one ACT was done, as one").live("n1n1s0", 2).due("count(10)", 2);
        r.text("s0").read("day()", 0).due("count(10)", 2).due("undo()", 1).due("count(3)", 2).live("w01s0", 1);
        r.due("count(10)", 2).due("undo()", 1).due("climber(0, 3)", 0).live("n0", 1).due("count(10)", 2);
    }

    private static void undoLeavesTheRest() {
        Run r = two("15: all of CLIMBERS but PACE").due("hours(1)", 1).due("sheet(2, 2, 3, 0)", 6).by("2");
        r.due("heard(0, 1)", 1).due("saw(1, 1)", 1).due("line()", 2).text("n1").due("undo()", 1).due("count(14)", 6);
        r.due("climber(0, 5)", 2).due("count(8)", 1).due("count(9)", 1).row(0, 1).due("count(12)", 2).due("count(3)", 2);
        r.due("day()", 1).due("keep(0)", 1).due("undo()", 1).due("again(0)", 1).due("count(3)", 3);
    }

    private static void undoForgottenByClimbers() {
        Run r = two("15: climbers() forgets them, if it is not refused").due("climbers()", 0).due("count(10)", 1);
        r.text("x").due("climbers()", -1).due("count(10)", 1).text("1;2;3;4;5;6").due("climbers()", -11).due("count(10)", 1);
        r.come("5").due("count(10)", 0).still("undo()", -1).due("count(3)", 2).due("hours(1)", 1).due("undo()", 0);
    }

    private static void undoForgottenByAgain() {
        Run r = two("15: again() forgets them, if it is not refused").due("again(0)", 0).due("again(2)", 0);
        r.due("again(-1)", 0).due("count(10)", 1).due("keep(0)", 1).due("count(10)", 1).due("again(1)", 0);
        r.due("count(10)", 1).due("again(0)", 1).due("count(10)", 0).due("undo()", -1).due("hours(1)", 1).due("undo()", 0);
        r.due("count(3)", 2);
    }
}
