/** Promises 31 to 36 at their edges: one test for each sentence that names one. */
public final class StandingEdgesTest {
    public static void main(String[] args) {
        lawyersZeroToNine();
        lawyersJustSoFar();
        lawyersToTopAlone();
        lawyersOfAsFewTheLeast();
        lawyersWithoutClimbers();
        ropeWithoutClimbers();
        ropeEachHigher();
        ropeOfAsManyTheLeastRow();
        lineOfLikeOnes();
        lineWithoutClimbers();
        nearestFewerThanTwo();
        nearestTheLesserFirst();
        nearestOfLikeOnes();
        stonesZeroTo999();
        stonesOfAsFewTheLeast();
        stonesHowManySets();
        stonesWithoutClimbers();
        partiesOfAsGoodOnesTheLeast();
        partiesOneAndNone();
        Run.finish();
    }

    /** CLIMBERS at told HEIGHTS (0 .. 9), TOP 9: each goes alone, by his PACE, while the others wait for him. */
    private static Run at(String name, int... heights) {
        StringBuilder paces = new StringBuilder("0");
        for (int i = 1; i < heights.length; i++) {
            paces.append(";0");
        }
        Run r = new Run(name).due("top(9)", 15).come(paces.toString());
        for (int i = 0; i < heights.length; i++) {
            if (heights[i] > 0) {
                r.by("(p=" + (i + 1) + ")").due("sheet(2, " + heights.length + ", 1, 1)",
                    heights.length * (heights.length + 1) / 2);
                r.live("s" + i + "n" + heights[i], 2);
            }
        }
        return r;
    }

    private static void lawyersZeroToNine() {
        Run r = at("31: v (0 .. 9)", 0, 9).question("lawyers(0)", 2).row(513).question("lawyers(9)", 1).row(1);
        r.question("lawyers(8)", 1).row(2);
        int[] others = {-1, 10, Integer.MIN_VALUE, Integer.MAX_VALUE};
        Run n = new Run("31: NONE: another v, without CLIMBERS").due("line()", 0);
        for (int v : others) {
            r.still("lawyers(" + v + ")", -1);
            n.still("lawyers(" + v + ")", -1);
        }
    }

    private static void lawyersJustSoFar() {
        Run r = at("31: v or less away", 2, 8).question("lawyers(3)", 1).row(32).question("lawyers(2)", 2).row(65);
        r.question("lawyers(4)", 1).row(16).question("lawyers(5)", 1).row(8).question("lawyers(6)", 1).row(4);
        r.question("lawyers(7)", 1).row(2).question("lawyers(8)", 1).row(1).question("lawyers(1)", 2).row(130);
    }

    private static void lawyersToTopAlone() {
        Run r = new Run("31: HEIGHTS (0 .. TOP)").come("9;9").live("t2s0n1", 3).question("lawyers(0)", 2).row(5);
        r.question("lawyers(1)", 1).row(2).question("lawyers(2)", 1).row(1).question("lawyers(9)", 1).row(1);
        Run t = new Run("31: at TOP 9").come("9").live("t9s0n3", 3).question("lawyers(0)", 1).row(512);
    }

    private static void lawyersOfAsFewTheLeast() {
        Run r = at("31: of as few the least", 0, 4, 9).question("lawyers(1)", 3).row(265).question("lawyers(2)", 2);
        r.row(132).question("lawyers(3)", 2).row(65).question("lawyers(4)", 2).row(33).question("lawyers(5)", 1).row(16);
        at("31: at every HEIGHT", 0, 1, 2, 3, 4, 5, 6).question("lawyers(0)", 7).row(127).question("lawyers(1)", 3).row(37);
    }

    private static void lawyersWithoutClimbers() {
        Run r = new Run("31: without CLIMBERS").question("lawyers(0)", 0).row(0).question("lawyers(9)", 0).row(0);
    }

    private static void ropeWithoutClimbers() {
        new Run("32: without CLIMBERS").due("later(0)", 7).question("rope()", 0).row();
        new Run("32: one").come("9").question("rope()", 1).row(0);
    }

    private static void ropeEachHigher() {
        at("32: each higher", 0, 1, 2, 3, 4, 5, 9).question("rope()", 7).row(0, 1, 2, 3, 4, 5, 6);
        at("32: as high is not higher", 3, 3, 3).question("rope()", 1).row(0);
        at("32: one higher is", 3, 4, 3).question("rope()", 2).row(0, 1);
        at("32: from the highest down", 6, 5, 4, 3, 2, 1, 0).question("rope()", 1).row(0);
    }

    private static void ropeOfAsManyTheLeastRow() {
        at("32: of as many the least row", 2, 1, 3, 2, 3).question("rope()", 3).row(1, 3, 4);
        at("32: the first beginning", 1, 0, 2, 3).question("rope()", 3).row(0, 2, 3);
        at("32: the first end", 1, 5, 3, 4).question("rope()", 3).row(0, 2, 3);
        at("32: the middle", 0, 5, 4, 6).question("rope()", 3).row(0, 1, 3);
    }

    private static void lineOfLikeOnes() {
        at("33: of like ones by their numbers", 3, 0, 9, 3, 9, 0, 3).question("line()", 7).row(2, 4, 0, 3, 6, 1, 5);
        at("33: one", 4).question("line()", 1).row(0);
    }

    private static void lineWithoutClimbers() {
        new Run("33: without CLIMBERS").due("later(0)", 7).question("line()", 0).row();
    }

    private static void nearestFewerThanTwo() {
        Run r = new Run("34: -2: fewer than two").due("later(0)", 7).still("nearest()", -2).come("9").due("line()", 1);
        r.still("nearest()", -2).come("9").question("nearest()", 0).row(0, 1);
    }

    private static void nearestTheLesserFirst() {
        at("34: the lesser first", 9, 0).question("nearest()", 9).row(0, 1);
        at("34: the last two", 9, 5, 2, 1).question("nearest()", 1).row(2, 3);
    }

    private static void nearestOfLikeOnes() {
        at("34: of like ones the least row", 9, 1, 5, 9, 5, 1).question("nearest()", 0).row(0, 3);
        at("34: the same first, another second", 4, 8, 6, 2).question("nearest()", 2).row(0, 2);
        at("34: 7 of them", 0, 9, 4, 2, 6, 8, 0).question("nearest()", 0).row(0, 6);
    }

    /** CLIMBERS who have BUILT so much. */
    private static Run built(String name, int... stones) {
        StringBuilder paces = new StringBuilder("9");
        for (int i = 1; i < stones.length; i++) {
            paces.append(";9");
        }
        Run r = new Run(name).come(paces.toString());
        for (int i = 0; i < stones.length; i++) {
            if (stones[i] > 0) {
                r.live("s" + i + "b" + i, 2);
                for (int left = stones[i]; left > 0; left -= 60) {
                    r.due("hours(" + Math.min(60, left) + ")", i);
                }
            }
        }
        return r;
    }

    private static void stonesZeroTo999() {
        Run r = built("35: v (0 .. 999)", 500, 499, 1).question("stones(0)", 0).row(0, 1).question("stones(999)", 2);
        r.row(3, 1).question("stones(1)", 1).row(4, 1).question("stones(500)", 1).row(1, 2);
        // 1000 together is more than can be asked.
        int[] others = {-1, 1000, Integer.MIN_VALUE, Integer.MAX_VALUE};
        for (int v : others) {
            r.still("stones(" + v + ")", -1);
        }
        r.still("stones(2)", -2).still("stones(998)", -2);
        Run c = built("35: 999 of one", 1100).question("stones(999)", 1).row(1, 1);
    }

    private static void stonesOfAsFewTheLeast() {
        Run r = built("35: of as few the least", 1, 2, 3, 4).question("stones(5)", 2).row(6, 2).question("stones(4)", 1);
        r.row(8, 2).question("stones(6)", 2).row(10, 2).question("stones(10)", 4).row(15, 1).question("stones(7)", 2).row(12, 2);
        r.still("stones(11)", -2);
    }

    private static void stonesHowManySets() {
        Run r = built("35: how many sets there are", 2, 0, 2).question("stones(2)", 1).row(1, 4).question("stones(4)", 2);
        r.row(5, 2).question("stones(0)", 0).row(0, 2);
        new Run("35: 7 who built nothing").come("1;1;1;1;1;1;1").question("stones(0)", 0).row(0, 128).still("stones(1)", -2);
    }

    private static void stonesWithoutClimbers() {
        Run r = new Run("35: without CLIMBERS").question("stones(0)", 0).row(0, 1).still("stones(1)", -2);
        r.still("stones(999)", -2).still("stones(1000)", -1);
    }

    private static void partiesOfAsGoodOnesTheLeast() {
        new Run("36: of as good ones the least").come("2;2;2;2").question("parties()", 0).row(3, 4);
        new Run("36: the lesser part").come("9;5;4").question("parties()", 0).row(1, 9);
        new Run("36: the other part").come("4;5;9").question("parties()", 0).row(3, 9);
        new Run("36: who has 0 stays out").come("0;3;0;3").question("parties()", 0).row(2, 3);
        new Run("36: 7 of 9").come("9;9;9;9;9;9;9").question("parties()", 9).row(7, 27);
    }

    private static void partiesOneAndNone() {
        new Run("36: one").come("9").question("parties()", 9).row(0, 0);
        new Run("36: one of PACE 0").come("0").question("parties()", 0).row(0, 0);
        new Run("36: without CLIMBERS").question("parties()", 0).row(0, 0);
    }
}
