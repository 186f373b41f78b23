/** Promises 45 to 49 at their edges: one test for each sentence that names one. */
public final class GamesEdgesTest {
    private static final int[] EXTREMES = {-1, Integer.MIN_VALUE, Integer.MAX_VALUE};

    public static void main(String[] args) {
        straysZeroToTop();
        straysZeroToTenTenths();
        straysAtOnce();
        straysOneUpAndDown();
        straysLongestFraction();
        bendOneToTwenty();
        bendNotBeyondZero();
        bendWhoseStepsAreZeroFirst();
        bendNothingIfHeLoses();
        restsZeroToTwenty();
        restsNothingWithout();
        restsFifthStep();
        lawEmpty();
        lawWrongSign();
        lawTwentyHours();
        lawBelowZero();
        lawNobody();
        yearsOneToSixty();
        yearsWithoutClimbers();
        yearsEachIfItCanBe();
        yearsSeeds();
        yearsIsAQuestion();
        Run.finish();
    }

    private static void straysZeroToTop() {
        for (int top = 2; top <= 9; top++) {
            Run r = new Run("45: HEIGHT h (0 .. TOP)");
            if (top != 5) {
                r.due("top(" + top + ")", 15);
            }
            r.question("strays(0, 5)", 0).row(1, 1).question("strays(" + top + ", 5)", 0).row(0, 1);
            r.question("strays(1, 5)", 0).row(top - 1, top).question("strays(" + (top - 1) + ", 5)", 0).row(1, top);
            r.still("strays(" + (top + 1) + ", 5)", -1).still("strays(10, 5)", -1);
            for (int h : EXTREMES) {
                r.still("strays(" + h + ", 5)", -1);
            }
        }
    }

    private static void straysZeroToTenTenths() {
        Run r = new Run("45: p tenths (0 .. 10)").due("top(2)", 15);
        for (int p = 0; p <= 10; p++) {
            int by = p % 10 == 0 ? 10 : p == 5 ? 5 : p % 2 == 0 ? 2 : 1;
            r.question("strays(1, " + p + ")", 0).row(p / by, 10 / by);
        }
        r.still("strays(1, 11)", -1).still("strays(0, 11)", -1).still("strays(2, 11)", -1);
        for (int p : EXTREMES) {
            r.still("strays(1, " + p + ")", -1).still("strays(0, " + p + ")", -1);
        }
    }

    private static void straysAtOnce() {
        Run r = new Run("45: at once, if he is there").question("strays(0, 0)", 0).row(1, 1).question("strays(0, 10)", 0);
        r.row(1, 1).question("strays(5, 0)", 0).row(0, 1).question("strays(5, 10)", 0).row(0, 1);
    }

    private static void straysOneUpAndDown() {
        Run r = new Run("45: always up, always down").question("strays(1, 0)", 0).row(0, 1).question("strays(4, 0)", 0);
        r.row(0, 1).question("strays(1, 10)", 0).row(1, 1).question("strays(4, 10)", 0).row(1, 1);
    }

    private static void straysLongestFraction() {
        // 9^8 by 9^8 + 9^7 + .. + 1, and the other way round 1 by it.
        Run r = new Run("45: the fraction").due("top(9)", 15).question("strays(8, 9)", 0).row(43046721L, 48427561L);
        r.question("strays(1, 1)", 0).row(5380840L, 48427561L).question("strays(8, 1)", 0).row(1, 48427561L);
        r.question("strays(8, 3)", 0).row(6561, 10083481).question("strays(3, 5)", 0).row(2, 3);
    }

    private static void bendOneToTwenty() {
        Run r = new Run("46: a and b (1 .. 20)").question("bend(1, 1)", 0).row().question("bend(20, 20)", 0).row();
        r.question("bend(20, 1)", 1).row(1).question("bend(1, 20)", 0).row().question("bend(20, 19)", 1).row(1);
        int[] others = {0, 21, -1, Integer.MIN_VALUE, Integer.MAX_VALUE};
        r.due("later(0)", 7);
        for (int v : others) {
            r.still("bend(" + v + ", 1)", -1).still("bend(1, " + v + ")", -1).still("bend(" + v + ", " + v + ")", -1);
        }
    }

    private static void bendNotBeyondZero() {
        // With 1 left he can go 1 alone, and is down; with 2 left he goes 1, and the other one with 1 left is down.
        Run r = new Run("46: 1 or 2 of his own (not beyond 0)").question("bend(1, 1)", 0).row().question("bend(2, 1)", 1);
        r.row(1).question("bend(1, 2)", 0).row();
    }

    private static void bendWhoseStepsAreZeroFirst() {
        Run r = new Run("46: whose STEPS are 0 first is down, and the other one has won").question("bend(2, 2)", 0).row();
        r.question("bend(3, 2)", 1).row(1).question("bend(3, 1)", 1).row(1).question("bend(2, 3)", 0).row();
    }

    private static void bendNothingIfHeLoses() {
        Run r = new Run("46: nothing if he loses").due("later(0)", 7).row(0, 0).question("bend(3, 3)", 0).row();
    }

    private static void restsZeroToTwenty() {
        Run r = new Run("47: v (0 .. 20)").question("rests(0)", 2).row(0, 0).question("rests(20)", 0).row();
        r.due("later(0)", 7);
        int[] others = {-1, 21, Integer.MIN_VALUE, Integer.MAX_VALUE};
        for (int v : others) {
            r.still("rests(" + v + ")", -1);
        }
    }

    private static void restsNothingWithout() {
        Run r = new Run("47: the least (nothing without)").due("later(0)", 7).question("rests(3)", 0).row();
        r.question("rests(2)", 4).row(0, 2).question("rests(1)", 8).row(0, 0);
    }

    /** All pairs are tried here by the sentence itself. */
    private static void restsFifthStep() {
        for (int v = 0; v <= 20; v++) {
            int many = 0;
            int least = -1;
            for (int pair = 0; pair < 100; pair++) {
                int x = pair / 10;
                int y = pair % 10;
                boolean rests = true;
                for (int z = 0; z <= 9; z++) {
                    rests &= has(z, y, v) <= has(x, y, v) && has(z, x, v) <= has(y, x, v);
                }
                least = rests && many == 0 ? pair : least;
                many += rests ? 1 : 0;
            }
            Run r = new Run("47: each STEP costs 1, the fifth and later ones 2").question("rests(" + v + ")", many);
            if (many > 0) {
                r.row(least / 10, least % 10);
            } else {
                r.row();
            }
        }
    }

    private static int has(int own, int others, int v) {
        int costs = 0;
        for (int step = 1; step <= own; step++) {
            costs += step >= 5 ? 2 : 1;
        }
        return (own + others) / 2 + (own > others ? v : 0) - costs;
    }

    private static void lawEmpty() {
        Run r = new Run("48: an empty one: none").come("8").by("0").live("s0", 1).read("law()", 1).row(1, 0, 0, 7);
        r.due("rule()", 0).read("law()", 0).row(1, 1, 0, 0);
    }

    private static void lawWrongSign() {
        Run r = new Run("48: -10000 - p: the sign at p can't stand there (as rule())").come("9").live("s0", 1);
        r.due("line()", 1).text("x").emptied("law()", -10000).text("1x").emptied("law()", -10001);
        r.text("1+").emptied("law()", -10002).text("1+".repeat(20)).emptied("law()", -10040);
        r.text("1+".repeat(20) + "1").emptied("law()", -10040).text("1+".repeat(19) + "10").read("law()", 0);
        r.text("-".repeat(39)).emptied("law()", -10039);
    }

    private static void lawTwentyHours() {
        // By 3 he is DOWN in 4 HOURS, by 1 in 10; he waits ahead of it.
        int[] waits = {9, 10, 11, 16, 17};
        int[] byOne = {1, 1, 0, 0, 0};
        int[] byThree = {1, 1, 1, 1, 0};
        for (int i = 0; i < waits.length; i++) {
            Run r = new Run("48: in 20 HOURS").come("9").live("s0w09w0" + (waits[i] - 9 > 0 ? waits[i] - 9 : 9), 3);
            if (waits[i] == 9) {
                r.due("undo()", 0).live("s0w09", 2);
            }
            r.text("1").read("law()", byOne[i] - byThree[i]);
            r.row(byOne[i], byThree[i], byOne[i] == 1 ? 0 : 7, byThree[i] == 1 ? 0 : 7);
        }
    }

    private static void lawBelowZero() {
        Run r = new Run("48: less that by THE RULE (below 0, too)").come("9;9;9;9;9;9;9").live("s0s1s2s3s4s5s6", 7);
        r.text("0").read("law()", -7).row(0, 7, 7, 6).by("0").text("3").read("law()", 7).row(7, 0, 6, 7);
        // -1 and -2 are numbers here, and the ROW is told.
        Run o = new Run("48: -1 is a number").come("9").live("s0", 1).text("0").read("law()", -1).row(0, 1, 7, 0);
    }

    private static void lawNobody() {
        new Run("48: 7: nobody").read("law()", 0).row(0, 0, 7, 7);
        Run r = new Run("48: who is OWNER already").come("9;9").live("s1b1n1", 3).text("0").read("law()", 0).row(0, 0, 1, 1);
        r.live("s0", 1).text("0").read("law()", -1).row(0, 1, 1, 0);
    }

    private static void yearsOneToSixty() {
        Run r = new Run("49: n times (1 .. 60); NONE: another n").come("9;9").live("s0n3", 2);
        // By seed 0 the first DRAW is an HOUR: R is 12345, by 65536 that is 0.
        r.question("years(0, 1)", 0).row(1, 0).due("line()", 2);
        int[] others = {0, -1, 61, Integer.MIN_VALUE, Integer.MAX_VALUE};
        for (int n : others) {
            r.still("years(0, " + n + ")", -1).still("years(" + n + ", " + n + ")", -1);
        }
        drawn("49: 60 times", "9;4;0", 77, 60);
        drawn("49: 59 times", "9;4;0", 77, 59);
    }

    private static void yearsWithoutClimbers() {
        Run r = new Run("49: nothing, no DRAWS more, without CLIMBERS").question("years(3, 60)", 7).row(0, 0);
        r.question("years(-2147483648, 1)", 7).row(0, 0).due("count(3)", 0);
    }

    private static void yearsEachIfItCanBe() {
        drawn("49: one", "9", 1, 60);
        drawn("49: two", "0;9", 4, 60);
        drawn("49: seven", "1;2;3;4;5;6;7", 12, 60);
        drawn("49: seven fast ones", "9;9;9;9;9;9;9", 99, 60);
    }

    private static void yearsSeeds() {
        int[] seeds = {0, 1, -1, Integer.MAX_VALUE, Integer.MIN_VALUE, 65535, 65536};
        for (int seed : seeds) {
            drawn("49: seed " + seed, "9;5;0;8", seed, 60);
            drawn("49: seed " + seed, "9;5;0;8", seed, 1);
        }
    }

    private static void drawn(String name, String paces, int seed, int n) {
        LastDownOwns x = new LastDownOwns();
        Run.textTo(x, paces);
        x.climbers();
        live(x, seed, n);
        Run y = new Run(name).come(paces).question("years(" + seed + ", " + n + ")", x.count(2));
        y.row(x.count(4), Integer.bitCount(x.count(5)));
    }

    /** The same is done by hours(), starts() and slips(), by DRAWS that are made here. */
    private static void live(LastDownOwns x, int seed, int n) {
        long[] r = {seed & 0xFFFFFFFFL};
        for (int i = 0; i < n; i++) {
            int what = draw(r, 4);
            if (what < 2) {
                x.hours(1);
            } else if (what == 2) {
                x.starts(draw(r, x.count(0)));
            } else {
                int who = draw(r, x.count(0));
                x.slips(who, draw(r, 3) + 1);
            }
        }
    }

    private static int draw(long[] r, int n) {
        r[0] = (r[0] * 1103515245L + 12345L) & 0xFFFFFFFFL;
        return (int) (r[0] / 65536 % n);
    }

    private static void yearsIsAQuestion() {
        LastDownOwns x = new LastDownOwns();
        Run.textTo(x, "9;9;9");
        x.climbers();
        Run.textTo(x, "s0s1n3");
        x.day();
        live(x, 5, 60);
        Run r = new Run("49: from here on; read as a question").come("9;9;9").live("s0s1n3", 3).due("keep(0)", 1);
        r.text("n1").question("years(5, 60)", x.count(2)).row(x.count(4), Integer.bitCount(x.count(5)));
        r.due("count(3)", 3).due("count(10)", 1).due("day()", 1).due("count(3)", 4);
    }
}
