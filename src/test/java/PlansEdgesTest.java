/** Promises 26 to 30 at their edges: one test for each sentence that names one. */
public final class PlansEdgesTest {
    private static final int[] NO_CLIMBER_OF_TWO = {-1, 2, 6, 7, Integer.MIN_VALUE, Integer.MAX_VALUE};
    private static final int[] FROM_ZERO = {-1, 61, Integer.MIN_VALUE, Integer.MAX_VALUE};
    private static final int[] FROM_ONE = {0, -1, 61, Integer.MIN_VALUE, Integer.MAX_VALUE};

    public static void main(String[] args) {
        peaksOneToSixty();
        peaksTwoToNine();
        peaksNoneLowerThanOneStands();
        peaksOfEqualOnesTheLowest();
        peaksOthers();
        bidesZeroToThirty();
        bidesAbove99();
        bidesZeroToSixty();
        bidesOthers();
        rivalsFewest();
        rivalsOfAsFewTheLeast();
        rivalsNeverHeHimself();
        rivalsAbove99();
        rivalsWhoHaveAWay();
        rivalsByNone();
        rivalsOthers();
        goesOneToSixty();
        goesOfEqualOnesTheFirst();
        goesAllHaveAWay();
        goesOthers();
        oustsFewest();
        oustsOfAsFewTheLeast();
        oustsHeToo();
        oustsByNone();
        oustsOthers();
        Run.finish();
    }

    /** Calls of one and n, refused for each other one and each other n. */
    private static void others(String number, String call, int good, int... otherNs) {
        Run empty = new Run(number + ": NONE: others, without CLIMBERS").due("line()", 0);
        empty.still(call + "(0, " + good + ")", -1).still(call + "(-1, " + good + ")", -1);
        Run r = new Run(number + ": NONE: others").come("9;9").live("s0n1", 2).due("line()", 2);
        for (int who : NO_CLIMBER_OF_TWO) {
            r.still(call + "(" + who + ", " + good + ")", -1);
        }
        for (int n : otherNs) {
            r.still(call + "(0, " + n + ")", -1).still(call + "(1, " + n + ")", -1);
        }
        // 7 stands for nobody, and is no climber.
        new Run(number + ": none such, of 7").come("1;1;1;1;1;1;1").due("line()", 7).still(call + "(7, " + good + ")", -1);
    }

    private static void waits(Run r, int who, int hours) {
        for (int left = hours; left > 0; left -= 9) {
            r.due("waits(" + who + ", " + Math.min(9, left) + ")", hours - Math.max(0, left - 9));
        }
    }

    private static void peaksOneToSixty() {
        Run r = new Run("26: 1, 2, .. n HOURS (1 .. 60)").come("9;9").live("s0b0", 2).question("peaks(0, 1)", 2).row(1, 1);
        r.question("peaks(0, 60)", 2).row(60, 60).question("peaks(1, 60)", 2).row(0, 0);
        // With WAIT 58 he is DOWN in HOUR 60 by TOP 2 or 3, and not yet in HOUR 59.
        Run l = new Run("26: behind the last of them").come("9;9").live("s0", 1);
        waits(l, 0, 58);
        l.question("peaks(0, 59)", 2).row(0, 0).question("peaks(0, 60)", 2).row(1, 0);
        // What is now is not behind 1, 2, ..
        Run n = new Run("26: not now").come("9;9").live("s0b0n1s1b1", 5).question("peaks(0, 5)", 2).row(0, 0);
    }

    private static void peaksTwoToNine() {
        Run two = new Run("26: TOP 2").come("0;9").live("s0", 1).question("peaks(0, 4)", 2).row(1, 0);
        // 1 is OWNER till 0 is DOWN: by TOP t behind 2t HOURS, as long as it can be by 9.
        Run nine = new Run("26: TOP 9").come("0;9").live("s1b1n1s0", 4).question("peaks(1, 30)", 9).row(17, 9);
        nine.question("peaks(1, 16)", 9).row(16, 9).due("top(9)", 15).question("peaks(1, 30)", 9).row(17, 17);
        nine.due("top(2)", 19).question("peaks(1, 30)", 9).row(17, 3);
    }

    private static void peaksNoneLowerThanOneStands() {
        Run r = new Run("26: none lower than one stands").come("9;9").live("s0n1", 2).question("peaks(0, 9)", 3).row(8, 7);
        // 1 stays at 3, so TOP 3 is the lowest for 0, too; by it he is DOWN in HOUR 5, by TOP 5 in HOUR 9.
        Run o = new Run("26: another one stands there").come("0;9").live("s0s1n1w19w19", 5).question("peaks(0, 12)", 3);
        o.row(8, 4).live("f11", 1).question("peaks(0, 12)", 2).row(10, 4);
        // 0 is DOWN in HOUR 6 and 1 in HOUR 12.
        Run h = new Run("26: one stands at 9").come("9;9").due("top(9)", 15).live("s1n3w19s0", 4).question("peaks(0, 60)", 9);
        h.row(6, 6);
    }

    private static void peaksOfEqualOnesTheLowest() {
        Run r = new Run("26: of equal ones the lowest").come("9;9").question("peaks(0, 9)", 2).row(0, 0);
        // TOP 7, 8, 9: 3 up and 3 down, so 1 is OWNER behind 5 HOURS; the lowest of them is 7.
        r.live("s1b1n1s0", 4).question("peaks(1, 10)", 7).row(5, 3).due("top(8)", 15).question("peaks(1, 10)", 7).row(5, 5);
    }

    private static void peaksOthers() {
        others("26", "peaks", 5, FROM_ONE);
    }

    private static void bidesZeroToThirty() {
        // Both come DOWN behind 4 HOURS; 1 has WAIT w and is OWNER from 4 + w on, if 0 is not later.
        int[] ahead = {0, 1, 29, 30};
        for (int w : ahead) {
            Run r = new Run("27: the fewest HOURS (0 .. 30)").come("9;9").live("s0s1", 2);
            waits(r, 1, w);
            r.due("line()", 2);
            if (w < 30) {
                // As long as 1 he must wait, and 1 more: 1 comes behind him by the number.
                r.question("bides(0, 60)", w + 1).row(30 - w);
            } else {
                r.still("bides(0, 60)", -2);
            }
        }
        Run z = new Run("27: none needed").come("9;9").live("s0s1", 2).question("bides(1, 60)", 0).row(31);
    }

    private static void bidesAbove99() {
        Run r = new Run("27: also above 99").come("9;9").live("s0s1b1n1", 4);
        waits(r, 0, 99);
        // 1 is OWNER now and in 60 HOURS, whatever he waits; 0 is not, as he waits on.
        r.due("line()", 2).still("bides(0, 60)", -2).question("bides(1, 60)", 0).row(31).due("hours(42)", 1);
        // He has WAIT 57 and needs 3 HOURS more: by 0 he is DOWN in 60, by 1 he is not.
        r.question("bides(0, 60)", 0).row(1);
        Run s = new Run("27: 99 and 30").come("9;9").live("s0s1", 2);
        waits(s, 0, 99);
        waits(s, 1, 99);
        s.due("line()", 2).still("bides(0, 60)", -2).due("hours(60)", 7).question("bides(0, 60)", 1).row(17);
        s.due("hours(20)", 7).question("bides(0, 60)", 1).row(30);
    }

    private static void bidesZeroToSixty() {
        Run r = new Run("27: in n HOURS (0 .. 60)").come("9;9").live("s0", 1).due("line()", 2).still("bides(0, 0)", -2);
        r.still("bides(0, 3)", -2).question("bides(0, 4)", 0).row(1).question("bides(0, 34)", 0).row(31);
        r.question("bides(0, 33)", 0).row(30).question("bides(0, 60)", 0).row(31).due("hours(4)", 0);
        r.question("bides(0, 0)", 0).row(31).due("line()", 2).still("bides(1, 60)", -2);
        Run l = new Run("27: in 60").come("9;9").live("s0", 1);
        waits(l, 0, 56);
        l.due("line()", 2).still("bides(0, 59)", -2).question("bides(0, 60)", 0).row(1);
    }

    private static void bidesOthers() {
        others("27", "bides", 5, FROM_ZERO);
    }

    private static void rivalsFewest() {
        Run r = new Run("28: the fewest others").come("9;9;9;9;9;9;9").live("s0s1s2s3s4s5s6", 7);
        r.question("rivals(6, 10)", 0).row(0).question("rivals(5, 10)", 1).row(64).question("rivals(3, 10)", 3).row(112);
        r.question("rivals(0, 10)", 6).row(126).question("rivals(0, 60)", 6).row(126);
        Run o = new Run("28: he alone").come("9").live("s0", 1).question("rivals(0, 4)", 0).row(0);
    }

    private static void rivalsOfAsFewTheLeast() {
        // By k neither 1 nor 2 comes far without the other one: either of them may stay, and 1 is the least.
        Run r = new Run("28: of as few the least").come("0;0;0").live("s0b0n1s1s2", 5).by("k*3").question("later(4)", 2);
        r.question("rivals(0, 4)", 1).row(2).question("rivals(1, 4)", -2).question("rivals(2, 4)", 0).row(0);
    }

    private static void rivalsNeverHeHimself() {
        // By k 1 would not come far either, if 0, the OWNER, stayed behind himself.
        Run r = new Run("28: others").come("0;0").live("s0b0n1s0s1", 5).by("k*3").question("later(4)", 1);
        r.question("rivals(0, 4)", 1).row(2);
    }

    private static void rivalsAbove99() {
        // 1 has WAIT 99 already: behind 60 HOURS more he has 39; 99 more keep him from it for 60 HOURS.
        Run r = new Run("28: 99 HOURS more (also above 99)").come("9;9").live("s0s1", 2);
        waits(r, 1, 99);
        r.due("hours(60)", 0).due("climber(1, 3)", 39).question("rivals(0, 42)", 0).row(0).question("rivals(0, 43)", 1);
        r.row(2).question("rivals(0, 60)", 1).row(2);
    }

    private static void rivalsWhoHaveAWay() {
        Run r = new Run("28: others who have a WAY").come("9;9;9").live("s1b1n1", 3).due("line()", 3);
        r.still("rivals(0, 9)", -2).question("rivals(1, 9)", 0).row(0).live("s0s2", 2).question("rivals(0, 9)", 1).row(4);
        r.question("rivals(1, 9)", 2).row(5).question("rivals(1, 0)", 0).row(0);
    }

    private static void rivalsByNone() {
        Run r = new Run("28: -2: by none; n HOURS (0 .. 60)").come("9;9").live("s0s1", 2).due("line()", 2);
        r.still("rivals(0, 0)", -2).still("rivals(0, 3)", -2).question("rivals(0, 4)", 1).row(2);
        r.question("rivals(0, 60)", 1).row(2).due("hours(4)", 1).question("rivals(1, 0)", 0).row(0).due("line()", 2);
        r.still("rivals(0, 60)", -2);
    }

    private static void rivalsOthers() {
        others("28", "rivals", 5, FROM_ZERO);
    }

    private static void goesOneToSixty() {
        Run r = new Run("29: 1, 2, .. n HOURS (1 .. 60)").come("9;9").question("goes(1)", 0).row(0).question("goes(3)", 0);
        r.row(0).question("goes(4)", 0).row(1).question("goes(60)", 0).row(57);
        Run o = new Run("29: he is OWNER already").come("9;9").live("s1b1n1", 3).question("goes(1)", 1).row(1);
        o.question("goes(60)", 1).row(60).question("goes(3)", 1).row(3);
    }

    private static void goesOfEqualOnesTheFirst() {
        Run r = new Run("29: of equal ones the first").come("0;9;9").question("goes(3)", 0).row(0).question("goes(4)", 1).row(1);
        r.live("s1", 1).question("goes(4)", 2).row(1).question("goes(60)", 2).row(57);
        Run l = new Run("29: the last of 7").come("0;0;0;0;0;0;9").question("goes(4)", 6).row(1);
    }

    private static void goesAllHaveAWay() {
        Run r = new Run("29: -2: all have a WAY (no CLIMBERS, too)").due("line()", 0).still("goes(1)", -2).still("goes(60)", -2);
        r.come("9;9").live("s0", 1).question("goes(60)", 1).row(57).live("s1", 1).due("line()", 2).still("goes(60)", -2);
        r.still("goes(1)", -2).live("b0n1", 2).question("goes(60)", 0).row(59);
    }

    private static void goesOthers() {
        Run r = new Run("29: NONE: another n").come("9;9").live("s0", 1).due("line()", 2);
        for (int n : FROM_ONE) {
            r.still("goes(" + n + ")", -1);
        }
    }

    private static void oustsFewest() {
        Run r = new Run("30: the fewest of those without a WAY").come("9;9;9").live("s0b0n1", 3);
        r.question("ousts(0, 4)", 1).row(2).question("ousts(0, 60)", 1).row(2).question("ousts(1, 60)", 0).row(0);
        // By k each needs one beside him, so two are to set out: 0 himself and 1 are the least.
        r.by("k*3").question("ousts(0, 4)", 2).row(3).due("line()", 3).still("ousts(0, 3)", -2);
        Run s = new Run("30: all 7").come("9;9;9;9;9;9;9").live("s6b6n1", 3).by("(k=6)*3").question("ousts(6, 3)", -2);
        s.by("(k>4)*3").question("ousts(6, 4)", 6).row(63);
    }

    private static void oustsOfAsFewTheLeast() {
        Run r = new Run("30: of as few the least").come("0;0;9;9").live("s0b0n1", 3).question("ousts(0, 4)", 1).row(4);
        r.question("ousts(0, 10)", 1).row(2).live("s2", 1).question("ousts(0, 4)", 0).row(0);
    }

    private static void oustsHeToo() {
        // By k 1 does not go till one is beside him, and of those without a WAY there is 0 alone, the OWNER.
        Run r = new Run("30: he, too, if he has none").come("9;9").live("s0b0n1s1", 4).by("k*3").due("line()", 2);
        r.still("ousts(0, 3)", -2).question("ousts(0, 4)", 1).row(1).live("s0", 1).question("ousts(0, 4)", 0).row(0);
    }

    private static void oustsByNone() {
        Run r = new Run("30: -2: by none; n HOURS (0 .. 60)").come("9;9").live("s0b0n1", 3).due("line()", 2);
        r.still("ousts(0, 0)", -2).still("ousts(0, 3)", -2).question("ousts(0, 4)", 1).row(2).question("ousts(1, 0)", 0);
        r.row(0).question("ousts(0, 60)", 1).row(2);
        Run a = new Run("30: he alone").come("9").live("s0b0n1", 3).due("line()", 1).still("ousts(0, 60)", -2);
    }

    private static void oustsOthers() {
        others("30", "ousts", 5, FROM_ZERO);
    }
}
