/** Promises 16 to 25 at their edges: one test for each sentence that names one. */
public final class OwnersEdgesTest {
    private static final int[] FAR = {-1, 100, Integer.MIN_VALUE, Integer.MAX_VALUE};
    private static final int[] NO_CLIMBER_OF_TWO = {-1, 2, 6, 7, Integer.MIN_VALUE, Integer.MAX_VALUE};

    public static void main(String[] args) {
        laterZeroTo99();
        laterNobody();
        whenNowTo99();
        whenOfThese100();
        whenNoneSuch();
        sharesOneTo99();
        sharesWithoutClimbers();
        orderOneTo99();
        orderOneBehindTheOther();
        emptyNowTo99();
        emptyNobody();
        highZeroTo99();
        highNoneSuch();
        comesOneTo99();
        comesNoneSuch();
        crowdZeroTo99();
        crowdWithoutOne();
        crowdOfAsMany();
        changesOneTo99();
        changesOrNobody();
        changesLongestRun();
        changesEarliest();
        waysOneTo99();
        waysUpAndDown();
        asIfNothingElseWereDone();
        byTopAsItIs();
        fromThisHourOn();
        Run.finish();
    }

    /** 0 has WAIT w and sets out: he is DOWN in HOUR w + 4. */
    private static Run waiting(String name, int w) {
        Run r = new Run(name).come("9;9").due("starts(0)", 1);
        for (int left = w; left > 0; left -= 9) {
            r.due("waits(0, " + Math.min(9, left) + ")", w - Math.max(0, left - 9));
        }
        return r.due("line()", 2);
    }

    private static void others(Run r, String call, int... others) {
        for (int n : others) {
            r.still(call + "(" + n + ")", -1);
        }
    }

    private static void laterZeroTo99() {
        Run r = waiting("16: in n HOURS (0 .. 99)", 95).question("later(0)", 7).row(0, 1).question("later(98)", 7);
        r.row(0, 1).question("later(99)", 0).row(1, 0);
        others(r, "later", FAR);
    }

    private static void laterNobody() {
        Run r = new Run("16: 7: nobody").question("later(0)", 7).row(0, 0).question("later(99)", 7).row(0, 0);
        others(r, "later", FAR);
        r.come("9;9").live("s1b1n1", 3).question("later(0)", 1).row(0, 0).question("later(99)", 1).row(0, 0);
    }

    private static void whenNowTo99() {
        Run r = waiting("17: 0: now .. 99; -2: behind none", 95).question("when(0)", 99).row(1).still("when(1)", -2);
        waiting("17: behind 98", 94).question("when(0)", 98).row(2);
        waiting("17: behind 100", 96).still("when(0)", -2);
        new Run("17: now").come("9").live("s0b0n1", 3).question("when(0)", 0).row(100);
        new Run("17: behind 1").come("9").live("s0b0", 2).question("when(0)", 1).row(99);
    }

    private static void whenOfThese100() {
        // 1 is OWNER now and till 0 is DOWN behind 4 HOURS: behind 0, 1, 2, 3 of them.
        Run r = new Run("17: behind how many of these 100").come("9;9").live("s1b1n1s0", 4).question("when(1)", 0).row(4);
        r.question("when(0)", 4).row(96).live("s1w12", 2).question("when(1)", 0).row(98).question("when(0)", 4).row(2);
    }

    private static void whenNoneSuch() {
        Run n = new Run("17: NONE: none such, without CLIMBERS").due("line()", 0).still("when(0)", -1);
        Run r = new Run("17: NONE: none such").come("9;9").live("s0n1", 2).due("line()", 2);
        others(n, "when", NO_CLIMBER_OF_TWO);
        others(r, "when", NO_CLIMBER_OF_TWO);
        // 7 stands for nobody, and is no climber.
        Run f = new Run("17: none such, of 7").come("1;1;1;1;1;1;1").due("line()", 7).still("when(7)", -1).still("when(6)", -2);
    }

    private static void sharesOneTo99() {
        Run r = waiting("18: 1, 2, .. n HOURS (1 .. 99)", 95).question("shares(1)", 1).row(0, 0).question("shares(98)", 98);
        r.row(0, 0).question("shares(99)", 98).row(1, 0);
        others(r, "shares", 0, -1, 100, Integer.MIN_VALUE, Integer.MAX_VALUE);
        // What is now is not behind 1, 2, ..
        Run o = new Run("18: not now").come("9;9").live("s0b0n1s1b1", 5).question("shares(1)", 0).row(0, 1);
    }

    private static void sharesWithoutClimbers() {
        Run r = new Run("18: without CLIMBERS").question("shares(1)", 1).row().question("shares(99)", 99).row();
        others(r, "shares", 0, 100);
        Run f = new Run("18: by CLIMBERS, 7 of them").come("9;9;9;9;9;9;9").live("s6b6n1", 3).question("shares(99)", 0);
        f.row(0, 0, 0, 0, 0, 0, 99);
    }

    private static void orderOneTo99() {
        Run r = waiting("19: in n HOURS (1 .. 99)", 95).question("order(1)", 0).row().question("order(98)", 0).row();
        r.question("order(99)", 1).row(0);
        others(r, "order", 0, -1, 100, Integer.MIN_VALUE, Integer.MAX_VALUE);
        new Run("19: in the first").come("9;9").live("s1b1", 2).question("order(1)", 1).row(1);
        new Run("19: without CLIMBERS").question("order(99)", 0).row();
    }

    /** As nobody sets out by himself, 7 is the most; so the 12 of the ROW are never too few. */
    private static void orderOneBehindTheOther() {
        Run r = new Run("19: one behind the other").come("0;9;0;4;9;0;0").live("s0s1s2s3s4s5s6b2b6", 9);
        r.question("order(1)", 2).row(2, 6).question("order(4)", 4).row(2, 6, 1, 4).question("order(99)", 7);
        r.row(2, 6, 1, 4, 3, 0, 5);
    }

    private static void emptyNowTo99() {
        waiting("20: 0: now .. 99", 95).question("empty()", 99).row(0);
        waiting("20: in 98", 94).question("empty()", 98).row(0);
        waiting("20: -2: in none of these", 96).still("empty()", -2);
        new Run("20: in 1").come("9;9").live("s1b1", 2).question("empty()", 1).row(1);
        new Run("20: now").come("9;9").live("s1b1n1", 3).question("empty()", 0).row(1);
        new Run("20: nobody goes").come("9").by("0").live("s0", 1).due("line()", 1).still("empty()", -2);
    }

    private static void emptyNobody() {
        new Run("20: 7: nobody, without CLIMBERS").question("empty()", 0).row(7);
        new Run("20: 7: nobody, and nobody has set out").come("9").live("w09", 1).question("empty()", 0).row(7);
    }

    private static void highZeroTo99() {
        Run r = waiting("21: in n HOURS (0 .. 99)", 95).question("high(0, 0)", 0).row(1, 0).question("high(0, 97)", 5);
        r.row(2, 0).question("high(0, 98)", 2).row(2, 0).question("high(0, 99)", 0).row(0, 1).question("high(1, 99)", 0);
        r.row(0, 0);
        for (int n : FAR) {
            r.still("high(0, " + n + ")", -1);
        }
    }

    private static void highNoneSuch() {
        Run n = new Run("21: NONE: none such, without CLIMBERS").due("line()", 0).still("high(0, 0)", -1);
        Run r = new Run("21: NONE: none such").come("9;9").live("s0n1", 2).due("line()", 2);
        for (int who : NO_CLIMBER_OF_TWO) {
            n.still("high(" + who + ", 0)", -1);
            r.still("high(" + who + ", 0)", -1).still("high(" + who + ", 100)", -1);
        }
    }

    private static void comesOneTo99() {
        waiting("22: HOURS (1 .. 99)", 95).question("comes(0)", 99).row(1).still("comes(1)", -2);
        waiting("22: in 98", 94).question("comes(0)", 98).row(1);
        waiting("22: -2: in none", 96).still("comes(0)", -2);
        Run r = new Run("22: in 1").come("9;9").live("s1b1", 2).question("comes(1)", 1).row(1).due("hours(1)", 1);
        r.due("line()", 2).still("comes(1)", -2);
    }

    private static void comesNoneSuch() {
        Run n = new Run("22: NONE: none such, without CLIMBERS").due("line()", 0).still("comes(0)", -1);
        Run r = new Run("22: NONE: none such").come("9;9").live("s0n1", 2).due("line()", 2);
        others(n, "comes", NO_CLIMBER_OF_TWO);
        others(r, "comes", NO_CLIMBER_OF_TWO);
    }

    private static void crowdZeroTo99() {
        // 1 waits at 5 for 0, who is there behind 99 HOURS.
        Run r = new Run("23: behind 0, 1, .. n HOURS (0 .. 99)").come("9;9").live("s1n2", 2).due("starts(0)", 2);
        for (int i = 1; i <= 11; i++) {
            r.due("waits(1, 9)", 9 * i);
        }
        for (int i = 1; i <= 10; i++) {
            r.due("waits(0, 9)", 9 * i);
        }
        r.due("waits(0, 7)", 97).due("line()", 2).question("crowd(0)", 1).row(0, 0).question("crowd(98)", 1).row(0, 0);
        r.question("crowd(99)", 2).row(5, 99);
        others(r, "crowd", FAR);
    }

    private static void crowdWithoutOne() {
        Run r = new Run("23: nothing if there are none").due("later(1)", 7).row(0, 0).question("crowd(0)", 0).row();
        r.question("crowd(99)", 0).row().come("9;9").live("w09", 1).due("later(1)", 7).question("crowd(99)", 0).row();
        // Who comes DOWN has no WAY any more.
        r.live("s0b0", 2).question("crowd(99)", 1).row(0, 0).due("hours(1)", 0).question("crowd(99)", 0).row();
    }

    private static void crowdOfAsMany() {
        // At 3: 0, 1; at 2: 2, 3; as many, so the lowest HEIGHT; later on they are as many again.
        Run r = new Run("23: of as many the fewest HOURS, then the lowest HEIGHT").come("9;9;4;4").live("s0s1s2s3n1", 5);
        r.question("crowd(0)", 2).row(2, 0).question("crowd(99)", 2).row(2, 0).live("f21", 1).question("crowd(99)", 2);
        r.row(3, 0);
        Run s = new Run("23: all 7").come("0;1;2;3;4;5;6").live("s0s1s2s3s4s5s6", 7).question("crowd(99)", 7).row(0, 0);
        Run t = new Run("23: at TOP 9").come("9").due("top(9)", 15).live("s0n3", 2).question("crowd(0)", 1).row(9, 0);
    }

    private static void changesOneTo99() {
        Run r = waiting("24: in n HOURS (1 .. 99)", 95).question("changes(1)", 0).row(0, 7).question("changes(98)", 0);
        r.row(0, 7).question("changes(99)", 1).row(1, 0);
        others(r, "changes", 0, -1, 100, Integer.MIN_VALUE, Integer.MAX_VALUE);
        new Run("24: 0 and 7 without").question("changes(1)", 0).row(0, 7).question("changes(99)", 0).row(0, 7);
    }

    private static void changesOrNobody() {
        Run r = new Run("24: another one (or nobody)").come("9;9").live("s0b0", 2).question("changes(1)", 1).row(1, 0);
        r.due("hours(1)", 0).question("changes(1)", 0).row(1, 0).question("changes(99)", 0).row(99, 0);
        // The same one again is no other; two in one HOUR are one change.
        r.live("s0b0", 2).question("changes(9)", 0).row(9, 0).live("s1b1", 2).question("changes(9)", 1).row(9, 1);
    }

    private static void changesLongestRun() {
        // OWNER is 1 now; behind 4 HOURS 0 is.
        Run r = new Run("24: the longest run of HOURS").come("9;9").live("s1b1n1s0", 4).question("changes(3)", 0).row(3, 1);
        r.question("changes(6)", 1).row(3, 1).question("changes(7)", 1).row(4, 0).question("changes(99)", 1).row(96, 0);
    }

    private static void changesEarliest() {
        Run r = new Run("24: of as long ones the earliest").come("9;9;9").live("s2b2n1s0s1w13", 6);
        // Behind 1, 2, 3 HOURS it is 2; behind 4, 5, 6 it is 0; from 7 on it is 1.
        r.question("changes(6)", 1).row(3, 2).question("changes(9)", 2).row(3, 2).question("changes(10)", 2).row(4, 1);
    }

    private static void waysOneTo99() {
        Run r = waiting("25: in n HOURS (1 .. 99)", 95).question("ways(1)", 0).row(0, 0).question("ways(96)", 3).row(3, 0);
        r.question("ways(98)", 8).row(8, 0).question("ways(99)", 10).row(10, 0);
        others(r, "ways", 0, -1, 100, Integer.MIN_VALUE, Integer.MAX_VALUE);
        new Run("25: without CLIMBERS").question("ways(1)", 0).row().question("ways(99)", 0).row();
    }

    private static void waysUpAndDown() {
        // No more is gone than there is to TOP and to 0: 3 2 up, 3 2 down.
        Run r = new Run("25: up and down added up").come("9;0").live("s0", 1).question("ways(2)", 5).row(5, 0);
        r.question("ways(4)", 10).row(10, 0).live("s1", 1).question("ways(4)", 14).row(10, 4).question("ways(99)", 20);
        r.row(10, 10);
        Run f = new Run("25: all 7").come("9;9;9;9;9;9;9").live("s0s1s2s3s4s5s6", 7).question("ways(99)", 70);
        f.row(10, 10, 10, 10, 10, 10, 10);
    }

    private static void asIfNothingElseWereDone() {
        Run r = new Run("Terms 2: asked as if nothing else were done").come("9;9").live("s0", 1).question("later(4)", 0);
        r.live("s1w11", 2).question("later(4)", 0).row(1, 1).question("later(5)", 1).row(2, 0).due("hours(5)", 1).row(2, 0);
    }

    /** By TOP 9 one of PACE 9 is at 3 6 9 6 3 0, by TOP 2 at 2 0. */
    private static void byTopAsItIs() {
        Run r = new Run("Terms 2: HOURS to come, by TOP 9").come("9;9").live("t9s0", 2).question("later(5)", 7).row(0, 1);
        r.question("later(6)", 0).row(1, 0).question("when(0)", 6).row(94).question("shares(9)", 5).row(4, 0);
        r.question("order(6)", 1).row(0).question("empty()", 6).row(0).question("high(0, 3)", 9).row(2, 0);
        r.question("comes(0)", 6).row(1).question("changes(9)", 1).row(4, 0).question("ways(99)", 18).row(18, 0);
        r.question("bides(0, 6)", 0).row(1).question("rivals(0, 6)", 0).row(0).question("goes(9)", 1).row(4);
        r.question("ousts(0, 6)", 1).row(2).text("1").read("law()", 0).row(1, 1, 0, 0).text("0").read("law()", -1);
        r.row(0, 1, 7, 0).question("strays(9, 5)", 0).row(0, 1);
        Run t = new Run("Terms 2: HOURS to come, by TOP 2").come("9;9").live("t2s0", 2).question("later(1)", 7).row(0, 1);
        t.question("later(2)", 0).row(1, 0).question("when(0)", 2).row(98).question("high(0, 1)", 2).row(2, 0);
        t.question("ways(99)", 4).row(4, 0).question("bides(0, 2)", 0).row(1).question("goes(9)", 1).row(8);
    }

    /** By n, from HOUR 2 on, one goes 2 3 up, 3 3 down, and stands still in HOUR 0 and 7. */
    private static void fromThisHourOn() {
        Run r = new Run("Terms 2: HOURS to come, from this HOUR on").come("9;9").by("n").live("n2s0", 2);
        r.question("high(0, 1)", 2).row(1, 0).question("high(0, 2)", 5).row(2, 0).question("high(0, 3)", 2).row(2, 0);
        r.question("later(3)", 7).row(0, 1).question("later(4)", 0).row(1, 0).question("when(0)", 4).row(96);
        r.question("comes(0)", 4).row(1).question("bides(0, 4)", 0).row(1).question("goes(9)", 1).row(6);
        r.text("n").read("law()", 0).row(1, 1, 0, 0).due("hours(4)", 0).due("starts(1)", 1).question("ways(2)", 3);
        r.row(0, 3).question("high(1, 2)", 3).row(1, 0);
    }
}
