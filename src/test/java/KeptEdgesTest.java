/** Promises 50 to 53 at their edges: one test for each sentence that names one. */
public final class KeptEdgesTest {
    private static final int[] OTHERS = {-1, 2, Integer.MIN_VALUE, Integer.MAX_VALUE};

    public static void main(String[] args) {
        keepZeroToOne();
        keepAnew();
        keepWithoutClimbers();
        againNothingKept();
        againClimbersCameSince();
        againAsItWasKept();
        againLeavesTheRest();
        countZeroToFifteen();
        countAtTheEnd();
        rowNoneSuch();
        rowOfTwelveAtMost();
        rowStaysWithOtherCalls();
        Run.finish();
    }

    private static void keepZeroToOne() {
        Run r = new Run("50: a number 0 .. 1; refused: others").come("9").live("s0n1", 2).due("line()", 1);
        for (int i : OTHERS) {
            r.still("keep(" + i + ")", 0);
        }
        r.due("keep(0)", 1).due("keep(1)", 1).due("count(10)", 1).row(0);
        for (int i : OTHERS) {
            r.still("keep(" + i + ")", 0).still("again(" + i + ")", 0);
        }
    }

    private static void keepAnew() {
        Run r = new Run("50: kept anew").due("hours(1)", 7).due("keep(0)", 1).due("hours(1)", 7).due("keep(1)", 1);
        r.due("hours(1)", 7).due("again(0)", 1).due("count(3)", 1).due("again(1)", 1).due("count(3)", 2).due("keep(0)", 1);
        r.due("hours(1)", 7).due("again(0)", 1).due("count(3)", 2).due("hours(3)", 7).due("again(0)", 1).due("count(3)", 2);
    }

    private static void keepWithoutClimbers() {
        Run r = new Run("50: without CLIMBERS").due("keep(0)", 1).due("top(9)", 15).due("hours(4)", 7).due("again(0)", 1);
        r.due("count(1)", 5).due("count(3)", 0).due("count(10)", 0);
    }

    private static void againNothingKept() {
        Run r = new Run("51: Refused: nothing kept").due("line()", 0).still("again(0)", 0).still("again(1)", 0);
        r.come("9").live("s0", 1).still("again(0)", 0).due("keep(1)", 1).still("again(0)", 0).due("again(1)", 1);
        for (int i : OTHERS) {
            r.still("again(" + i + ")", 0);
        }
    }

    private static void againClimbersCameSince() {
        Run r = new Run("51: Refused: CLIMBERS came since").come("9").live("s0", 1).due("keep(0)", 1).due("keep(1)", 1);
        r.due("climbers()", 0).text("x").due("climbers()", -1).text("1;2;3;4;5;6;7").due("climbers()", -13);
        r.due("again(0)", 1).due("again(1)", 1).come("4").live("s1", 1).still("again(0)", 0).still("again(1)", 0);
        r.due("keep(1)", 1).still("again(0)", 0).due("hours(9)", 1).due("again(1)", 1).due("count(3)", 0).due("count(5)", 3);
    }

    private static void againAsItWasKept() {
        // All that undo() brings back is another one then.
        Run r = new Run("51: It is as it was kept").come("9;9").live("s0n1w01", 3).due("keep(0)", 1).live("n1", 1);
        r.due("keep(1)", 1).live("t9f09s1n9", 4).due("count(2)", 1).due("count(4)", 2).due("again(0)", 1).due("count(1)", 5);
        r.due("count(2)", 7).due("count(3)", 1).due("count(4)", 0).due("climber(0, 1)", 3).due("climber(0, 2)", 1);
        r.due("climber(0, 3)", 1).due("climber(0, 4)", 0).due("climber(1, 2)", 0).due("climber(1, 4)", 0).due("again(1)", 1);
        r.due("climber(0, 3)", 0).due("count(3)", 2).due("again(1)", 1);
    }

    private static void againLeavesTheRest() {
        Run r = new Run("51: PACE, THE RULE, what was heard and seen, the ROW, THE TEXT stay").come("9;9").due("keep(0)", 1);
        r.live("s0", 1).due("sheet(2, 2, 1, 1)", 3).by("2").due("heard(0, 1)", 1).due("saw(1, 1)", 1).due("line()", 2);
        r.text("n1").due("again(0)", 1).due("count(14)", 3).due("climber(0, 5)", 2).due("count(8)", 1).due("count(9)", 1);
        r.row(0, 1).due("count(12)", 2).due("count(5)", 0).due("day()", 1);
    }

    private static void countZeroToFifteen() {
        Run r = new Run("52: what 0 .. 15; NONE for another what").come("9;4;2").live("s0s1n4w27w12", 5);
        r.due("heard(0, 1)", 1).due("saw(1, 1)", 1).due("saw(1, 1)", 2).due("later(0)", 0).due("sign(0)", 4);
        long[] due = {3, 5, 0, 4, 1, 2, 3, 1, 1, 2, 1, 2, 4, 9, 15, 6};
        for (int what = 0; what < due.length; what++) {
            r.still("count(" + what + ")", due[what]);
        }
        r.live("n6", 1).still("count(13)", 1).still("count(15)", 4).live("n1", 1).still("count(15)", 0);
        int[] others = {-1, 16, Integer.MIN_VALUE, Integer.MAX_VALUE};
        for (int what : others) {
            r.still("count(" + what + ")", -1);
        }
    }

    private static void countAtTheEnd() {
        Run r = new Run("52: full").come("9;9;9;9;9;9;9").due("top(9)", 15).live("s0s1s2s3s4s5s6n3", 8);
        r.due("count(0)", 7).due("count(1)", 9).due("count(5)", 127).due("count(6)", 63).due("count(14)", 63);
        for (int i = 0; i < 7; i++) {
            r.live(("w" + i + "9").repeat(11), 11);
        }
        r.due("count(13)", 693).due("count(15)", 127).due("count(10)", 9);
    }

    private static void rowNoneSuch() {
        Run r = new Run("53: NoSuchElementException: none such").stillNone("row(0)").stillNone("row(-1)");
        r.due("later(0)", 7).still("row(0)", 0).still("row(1)", 0).stillNone("row(2)").stillNone("row(-1)");
        r.stillNone("row(12)").stillNone("row(2147483647)").stillNone("row(-2147483648)");
        // A shorter ROW has nothing of the longer one ahead of it.
        r.due("empty()", 0).still("row(0)", 7).stillNone("row(1)").due("line()", 0).stillNone("row(0)");
    }

    private static void rowOfTwelveAtMost() {
        Run r = new Run("53: 7 numbers").come("1;1;1;1;1;1;1").due("line()", 7).row(0, 1, 2, 3, 4, 5, 6);
        r.due("ways(9)", 0).row(0, 0, 0, 0, 0, 0, 0).due("rope()", 1).row(0);
    }

    private static void rowStaysWithOtherCalls() {
        Run r = new Run("Terms 2: the ROW stays with calls that do not tell of it").come("4;0;8").due("line()", 3);
        String[] calls = {"starts(0)", "waits(0, 1)", "backs(0)", "slips(0, 1)", "top(6)", "heard(0, 1)", "forget()",
            "saw(1, 1)", "denies()", "keep(0)", "undo()", "again(0)", "sheet(2, 3, 1, 1)", "sheet(3, 0, 0, 0)", "sign(0)",
            "end(0)", "climbers()", "rule()", "count(11)", "climber(0, 5)"};
        long[] due = {1, 1, 2, 0, 15, 1, 1, 1, 1, 1, 4, 1, 6, -3, 4, 1, 0, 0, 3, 1};
        for (int i = 0; i < calls.length; i++) {
            r.due(calls[i], due[i]).row(0, 1, 2);
        }
        r.come("1").row(0, 1, 2).by("2").row(0, 1, 2);
    }
}
