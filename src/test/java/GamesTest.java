/** Promises 45 to 49: walks by chance, a polite bend, rests, rules, years. */
public final class GamesTest {
    public static void main(String[] args) {
        strays();
        bend();
        rests();
        law();
        years();
        yearsFromHere();
        Run.finish();
    }

    private static void strays() {
        Run r = new Run("45 strays");
        r.question("strays(0, 0)", 0).row(1, 1).question("strays(5, 10)", 0).row(0, 1).question("strays(1, 0)", 0).row(0, 1);
        r.question("strays(4, 10)", 0).row(1, 1).question("strays(2, 5)", 0).row(3, 5).question("strays(2, 3)", 0);
        r.row(711, 4141).question("strays(0, 5)", 0).row(1, 1).question("strays(5, 5)", 0).row(0, 1);
        r.still("strays(6, 5)", -1).still("strays(-1, 5)", -1).still("strays(0, 11)", -1).still("strays(0, -1)", -1);
        r.due("top(2)", 15).question("strays(1, 4)", 0).row(2, 5).question("strays(1, 9)", 0).row(9, 10);
        r.still("strays(3, 5)", -1).due("top(4)", 12).question("strays(2, 8)", 0).row(16, 17);
        r.question("strays(2, 5)", 0).row(1, 2).due("top(9)", 14).question("strays(3, 5)", 0).row(2, 3);
        // From 8 he must come down 8 times ahead of one up: 9^8 by 9^8 + 9^7 + .. + 1.
        r.question("strays(8, 9)", 0).row(43046721, 48427561);
    }

    private static void bend() {
        Run r = new Run("46 bend");
        for (int a = 1; a <= 20; a++) {
            r = new Run("46 bend of " + a);
            for (int b = 1; b <= 20; b += 1) {
                // The farther one wins: he goes 1 each time, and stays where the other one went 2.
                r.question("bend(" + a + ", " + b + ")", a > b ? 1 : 0);
                if (a > b) {
                    r.row(1);
                } else {
                    r.row();
                }
            }
        }
        r.still("bend(0, 1)", -1).still("bend(1, 0)", -1).still("bend(21, 1)", -1).still("bend(1, 21)", -1);
        r.still("bend(-1, 5)", -1);
    }

    private static void rests() {
        Run r = new Run("47 rests");
        r.question("rests(0)", 2).row(0, 0).question("rests(1)", 8).row(0, 0).question("rests(2)", 4).row(0, 2);
        r.question("rests(3)", 0).row().question("rests(20)", 0).row().due("hours(0)", 7);
        r.still("rests(21)", -1).still("rests(-1)", -1);
    }

    private static void law() {
        Run r = new Run("48 law");
        r.text("4;0;8").due("climbers()", 3).due("starts(0)", 1).due("starts(2)", 2).due("starts(1)", 3);
        // By THE RULE: 2 behind 4, 0 behind 6, 1 behind 10 HOURS.
        r.text("").read("law()", 0).row(3, 3, 1, 1).text("0").read("law()", -3).row(0, 3, 7, 1);
        r.text("3").read("law()", 0).row(3, 3, 2, 1).text("p/4").read("law()", -1).row(2, 3, 0, 1);
        r.text("x").emptied("law()", -10000).text("p+").emptied("law()", -10002).text("p)").emptied("law()", -10001);
        r.text("0").due("rule()", 0).text("3").read("law()", 3).row(3, 0, 2, 7).due("climber(2, 5)", 0);
        r.text("0").due("law()", 0).row(0, 0, 7, 7).due("count(12)", 0).due("count(10)", 3);
        Run n = new Run("48 20 HOURS").text("0").due("climbers()", 1).due("starts(0)", 1).due("waits(0, 9)", 9);
        n.text("1").read("law()", 0).row(1, 1, 0, 0).due("waits(0, 1)", 10).text("1").read("law()", 0);
        n.row(1, 1, 0, 0).due("waits(0, 1)", 11).text("1").read("law()", 0).row(0, 0, 7, 7);
        new Run("48 nobody").read("law()", 0).row(0, 0, 7, 7);
    }

    private static void years() {
        Run r = new Run("49 years");
        r.question("years(5, 60)", 7).row(0, 0).still("years(5, 61)", -1).still("years(5, 0)", -1);
        r.still("years(5, -1)", -1).text("9").due("climbers()", 1);
        r.question("years(1, 10)", 0).row(2, 0).question("years(0, 1)", 7).row(0, 0).question("years(3, 2)", 7).row(0, 0);
        r.text("9").due("climbers()", 1).question("years(12, 40)", 1).row(4, 0);
        Run t = new Run("49 three").text("9;4;0").due("climbers()", 3);
        t.question("years(1, 60)", 1).row(8, 2).question("years(-7, 60)", 1).row(5, 1).due("count(10)", 0);
        t.due("sheet(2, 3, 4, 2)", 18).due("count(3)", 0);
        Run s = new Run("49 seven").text("1;2;3;4;5;6;7").due("climbers()", 7);
        s.question("years(2147483647, 60)", 5).row(9, 1);
    }

    private static void yearsFromHere() {
        Run r = new Run("49 from here").text("9;9").due("climbers()", 2).due("starts(0)", 1).due("hours(3)", 7);
        // By seed 0 the first DRAW is an HOUR: 0 comes DOWN.
        r.question("years(0, 1)", 0).row(1, 0).due("waits(0, 1)", 1).question("years(0, 1)", 7).row(0, 1);
    }
}
