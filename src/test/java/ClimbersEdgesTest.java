/** Promises 2 to 8 at their edges: one test for each sentence that names one. */
public final class ClimbersEdgesTest {
    private static final String TEN_TIMES_1 = "1+1+1+1+1+1+1+1+1+1+";

    public static void main(String[] args) {
        signHighestByteFirst();
        signToEighty();
        endOfSoMany();
        endIsTheEnd();
        climbersEmpty();
        climbersWrongSign();
        climbersEndTooEarly();
        climbersThirteenSigns();
        climbersNoRoom();
        climbersFirstFromTheLeft();
        climbersNothingComes();
        ruleEmpty();
        ruleEndTooEarly();
        ruleFortySigns();
        ruleStaysIfRefused();
        topTwoToNine();
        topIsSo();
        topOneStandsHigher();
        topTurnsInTheNextHour();
        climberWhatAndWho();
        climberStepsWhateverHeDoes();
        sheetKinds();
        sheetEntries();
        sheetBytes();
        sheetShorts();
        sheetInts();
        sheetBelowZero();
        sheetMissing();
        sheetCannotBeUndone();
        Run.finish();
    }

    private static void signHighestByteFirst() {
        Run r = new Run("2: of v the highest byte first").due("sign(" + 0x373B333B + ")", 4).due("end(3)", 1);
        r.due("climbers()", 2).due("climber(0, 0)", 7).due("climber(1, 0)", 3);
        Run g = new Run("2: the greatest v").due("sign(2147483647)", 4).emptied("climbers()", -1);
        Run l = new Run("2: the least v").due("sign(-2147483648)", 4).emptied("climbers()", -1);
        // A byte above 127 is a sign of its own: 177 is no 1, and 187 no ;.
        Run b = new Run("2: bytes above 127").due("sign(" + 0xB1000000 + ")", 4).due("end(1)", 1).emptied("climbers()", -1);
        b.due("sign(" + 0x31BB3100 + ")", 4).due("end(3)", 1).emptied("climbers()", -2);
        b.due("sign(" + 0x313B31BB + ")", 4).emptied("climbers()", -4);
    }

    private static void signToEighty() {
        Run r = new Run("2: how many it has; refused: more than 80");
        for (int i = 1; i <= 20; i++) {
            r.due("sign(" + 0x6E316E31 + ")", 4 * i);
        }
        r.still("sign(0)", -1).due("count(12)", 80).still("sign(-1)", -1);
        for (int n = 79; n >= 77; n--) {
            r.due("end(" + n + ")", 1).still("sign(0)", -1).due("count(12)", n);
        }
        r.due("end(76)", 1).due("sign(0)", 80).still("sign(0)", -1).due("end(60)", 1).due("day()", 30);
    }

    private static void endOfSoMany() {
        Run r = new Run("3: false if it has not so many, or n is below 0").still("end(0)", 1).still("end(1)", 0);
        r.still("end(-1)", 0).still("end(-2147483648)", 0).still("end(2147483647)", 0).text("1;2;3");
        r.still("end(6)", 0).still("end(-1)", 0).still("end(-2147483648)", 0).still("end(2147483647)", 0);
        r.still("end(5)", 1).due("end(4)", 1).due("count(12)", 4).still("end(5)", 0).due("end(0)", 1).due("count(12)", 0);
    }

    private static void endIsTheEnd() {
        Run r = new Run("3: its first n signs alone").text("1;2;3").due("end(1)", 1).due("climbers()", 1);
        r.due("climber(0, 0)", 1).text("1;2;3").due("end(2)", 1).due("sign(" + 0x393B3800 + ")", 6).due("end(5)", 1);
        r.due("climbers()", 3).due("climber(2, 0)", 9).due("climber(3, 0)", 8);
    }

    private static void climbersEmpty() {
        Run r = new Run("4: an empty one: nothing").still("climbers()", 0).come("3").live("s0", 1).due("keep(1)", 1);
        r.due("line()", 1).still("climbers()", 0).due("count(0)", 1).due("count(10)", 1).due("again(1)", 1);
        Run f = new Run("4: an empty one, without room").come("1;1;1;1;1;1;1").live("s0", 1).still("climbers()", 0);
    }

    private static void climbersWrongSign() {
        Run r = new Run("4: the sign at p can't stand there").come("5").due("line()", 1);
        String[] texts = {"/", ":", ";", "x", "10", "1:2", "1;/", "1;:", "1;;", "1;2x", "1;2;;", "1;2;3;4;5;;", "1 ;2"};
        int[] at = {0, 0, 0, 0, 1, 1, 2, 2, 2, 3, 4, 10, 1};
        for (int i = 0; i < texts.length; i++) {
            r.text(texts[i]).emptied("climbers()", -1 - at[i]);
        }
    }

    private static void climbersEndTooEarly() {
        String text = "";
        for (int lines = 1; lines <= 6; lines++) {
            text += lines + ";";
            Run r = new Run("4: its end, if it ends too early").text(text).emptied("climbers()", -1 - 2 * lines);
        }
    }

    private static void climbersThirteenSigns() {
        String good = "1;2;3;4;5;6;7";
        new Run("4: 13 signs").come(good).due("count(0)", 7).due("count(14)", 28);
        String[] more = {";", "8", "x", ";8", ";8;9", "; x", ";8;9;1;2;3;4;5;6;7;8"};
        for (String behind : more) {
            Run r = new Run("4: 13, if it has more and the first 13 could go on or end").text(good + behind);
            r.emptied("climbers()", -14);
        }
        Run e = new Run("4: 80 signs").text((good + ";").repeat(6).substring(0, 80)).emptied("climbers()", -14);
        e.text("1;2;3;4;5;6;x;8").emptied("climbers()", -13).text("1;2;3;4;5;67;8").emptied("climbers()", -12);
        e.text("x;2;3;4;5;6;7;8").emptied("climbers()", -1);
    }

    private static void climbersNoRoom() {
        String seven = "1;2;3;4;5;6;7";
        for (int there = 1; there <= 7; there++) {
            Run r = new Run("4: the first sign of a LINE for which there is no room").come(seven.substring(0, 2 * there - 1));
            int room = 7 - there;
            r.text(seven.substring(0, 2 * room + 1)).emptied("climbers()", -1 - 2 * room);
            r.text(seven).emptied("climbers()", -1 - 2 * room);
            if (room > 0) {
                r.come(seven.substring(0, 2 * room - 1)).due("count(0)", 7);
            }
        }
    }

    private static void climbersFirstFromTheLeft() {
        Run r = new Run("4: the first sign that can't stand there").come("1;2;3;4").due("line()", 4);
        r.text("1;2;3;4x").emptied("climbers()", -7).text("1;2;3;x").emptied("climbers()", -7);
        r.text("1;2;3;").emptied("climbers()", -7).text("1;2;3x4").emptied("climbers()", -6);
        r.text("1;2;3;4;5;6;7;8").emptied("climbers()", -7).text("1;2;3;4;").emptied("climbers()", -7);
        r.text("1;x;3;4").emptied("climbers()", -3);
    }

    private static void climbersNothingComes() {
        Run r = new Run("4: Nothing of it comes, if a LINE can't").come("8").live("s0n1", 2).due("keep(0)", 1);
        r.due("line()", 1).text("1;2;3;4;5;6;x").emptied("climbers()", -13).text("1;2;3;4;5;6;7").emptied("climbers()", -13);
        r.due("count(0)", 1).none("climber(1, 0)").due("again(0)", 1);
    }

    private static void ruleEmpty() {
        Run r = new Run("5: an empty one: none").come("8").due("line()", 1).still("rule()", 0).by("1");
        r.due("climber(0, 5)", 1).due("rule()", 0).due("climber(0, 5)", 3).still("rule()", 0);
    }

    private static void ruleEndTooEarly() {
        String[] texts = {"-", "(", "p+", "p-", "p*", "p/", "p<", "p>", "p=", "(p", "((p)", "(p+", "123+", "--", "(("};
        for (String text : texts) {
            Run r = new Run("5: its end, if it ends too early").by("2").text(text).emptied("rule()", -1 - text.length());
            r.text(text).emptied("law()", -10000 - text.length());
        }
        String open = TEN_TIMES_1 + TEN_TIMES_1.substring(0, 19);
        new Run("5: its end at 39").text(open.substring(0, 38) + "-").emptied("rule()", -40);
        new Run("5: its end at 40").text(open + "+").emptied("rule()", -41);
        new Run("5: an open bracket at 40").text("(" + open).emptied("rule()", -41);
    }

    private static void ruleFortySigns() {
        String ones = TEN_TIMES_1 + TEN_TIMES_1;
        new Run("5: 39 signs").come("0").by(ones.substring(0, 39)).due("climber(0, 5)", 3);
        new Run("5: 40 signs").come("0").by(ones.substring(0, 38) + "10").due("climber(0, 5)", 3);
        new Run("5: 40 signs, the last counts").come("0").by(ones.substring(0, 36) + "-015").due("climber(0, 5)", 3);
        new Run("5: 40 signs, the last digit").come("0").by(ones.substring(0, 36) + "-017").due("climber(0, 5)", 1);
        String[] behind = {"0", "+", "x", "+1", ")", "(((((((((("};
        for (String more : behind) {
            Run r = new Run("5: 40, if it has more and the first 40 could go on or end").come("0").by("2");
            r.text(ones.substring(0, 38) + "10" + more).emptied("rule()", -41);
            r.text(ones.substring(0, 38) + "10" + more).emptied("law()", -10040);
            r.text(ones + more).emptied("rule()", -41).text("(" + ones.substring(0, 39) + more).emptied("rule()", -41);
        }
        Run w = new Run("5: more than 40, and wrong ahead of it").text(ones.substring(0, 39) + "xx").emptied("rule()", -40);
        w.text("x" + ones).emptied("rule()", -1).text("p".repeat(80)).emptied("rule()", -2);
        w.text("-".repeat(80)).emptied("rule()", -41).text("-".repeat(41)).emptied("law()", -10040);
    }

    private static void ruleStaysIfRefused() {
        Run r = new Run("5: refused, THE RULE stays").come("9").by("2").text("1+x").emptied("rule()", -3);
        r.due("climber(0, 5)", 2).text("3").read("law()", 0).due("climber(0, 5)", 2).text("1+").emptied("law()", -10002);
        r.due("climber(0, 5)", 2);
        // HOURS, now and to come, go by THE RULE, not by what was read last.
        Run h = new Run("5: HOURS by THE RULE").come("9").by("1").live("s0", 1).text("3").due("law()", 0).due("hours(1)", 7);
        h.due("climber(0, 1)", 1).text("3").due("law()", 0).live("n1", 1).due("climber(0, 1)", 2).text("3-").due("rule()", -3);
        h.due("hours(1)", 7).due("climber(0, 1)", 3).text("3x").due("rule()", -2).live("n1", 1).due("climber(0, 1)", 4);
        h.text("3").due("law()", 0).question("later(5)", 7).question("later(6)", 0).question("bides(0, 6)", 0).row(1);
        h.question("goes(9)", -2).question("years(0, 1)", 7).row(0, 1).question("high(0, 1)", 5);
    }

    private static void topTwoToNine() {
        Run r = new Run("6: TOP becomes v (2 .. 9): 10 and what it was").due("line()", 0);
        int was = 5;
        for (int v = 2; v <= 9; v++) {
            if (v != was) {
                r.due("top(" + v + ")", 10 + was).due("count(1)", v);
                was = v;
            }
            r.still("top(" + v + ")", -2);
        }
        r.due("top(2)", 19).still("top(1)", -1).still("top(10)", -1).still("top(0)", -1).still("top(-1)", -1);
        r.still("top(2147483647)", -1).still("top(-2147483648)", -1).due("top(9)", 12).still("top(10)", -1);
    }

    private static void topIsSo() {
        Run r = new Run("6: -2: it is so").still("top(5)", -2).come("9").live("s0n2", 2).due("line()", 1).still("top(5)", -2);
        r.due("count(10)", 1);
    }

    private static void topOneStandsHigher() {
        Run r = new Run("6: -3: one stands higher").come("0;9").live("s1n1", 2).due("line()", 2).still("top(2)", -3);
        r.due("top(3)", 15).due("count(1)", 3).still("top(2)", -3).still("top(1)", -1).due("top(4)", 13);
        Run l = new Run("6: the last climber stands higher").come("0;0;0;0;0;0;9").live("s6n1", 2).still("top(2)", -3);
        l.live("f61", 1).due("top(2)", 15);
    }

    private static void topTurnsInTheNextHour() {
        Run r = new Run("6: One at TOP then turns in the next HOUR").come("9").live("s0n1t3", 3).due("climber(0, 2)", 1);
        r.due("hours(1)", 7).due("climber(0, 2)", 2).due("climber(0, 1)", 3).due("hours(1)", 0);
        Run w = new Run("6: he waits").come("9").live("s0n1t3w09n1", 5).due("climber(0, 2)", 2).due("climber(0, 3)", 8);
        Run u = new Run("6: TOP is higher again ahead of it").come("9").live("s0n1t3t9n1", 5).due("climber(0, 2)", 1);
        u.due("climber(0, 1)", 6);
    }

    private static void climberWhatAndWho() {
        Run n = new Run("7: none such, without CLIMBERS").due("line()", 0);
        Run r = new Run("7: none such, another what").come("9;0").live("w05s1", 2).due("line()", 2);
        int[] extremes = {-1, Integer.MIN_VALUE, Integer.MAX_VALUE};
        for (int v : extremes) {
            n.stillNone("climber(" + v + ", 0)").stillNone("climber(0, " + v + ")");
            r.stillNone("climber(" + v + ", 0)").stillNone("climber(0, " + v + ")").stillNone("climber(" + v + ", " + v + ")");
        }
        n.stillNone("climber(0, 0)").stillNone("climber(0, 5)");
        r.stillNone("climber(2, 0)").stillNone("climber(2, 5)").stillNone("climber(7, 0)").stillNone("climber(1, 6)");
        r.still("climber(0, 0)", 9).still("climber(0, 3)", 5).still("climber(0, 5)", 3).still("climber(1, 0)", 0);
        r.still("climber(1, 2)", 1).still("climber(1, 5)", 1);
    }

    private static void climberStepsWhateverHeDoes() {
        Run r = new Run("7: STEPS now (whatever his WAY, WAIT are)").come("9;9;9;9").live("s0s1b1s2w29", 5);
        for (int i = 0; i < 4; i++) {
            r.due("climber(" + i + ", 5)", 3);
        }
    }

    private static void sheetKinds() {
        Run r = new Run("8: NONE: another kind, n above 7 (these first)").come("1;2;3").live("s0", 1).due("line()", 3);
        int[] kinds = {-1, 4, Integer.MIN_VALUE, Integer.MAX_VALUE};
        for (int kind : kinds) {
            r.still("sheet(" + kind + ", 3, 5, 0)", -1).still("sheet(" + kind + ", -1, 5, 0)", -1);
            r.still("sheet(" + kind + ", 8, 5, 0)", -1);
        }
        for (int kind = 0; kind <= 3; kind++) {
            r.still("sheet(" + kind + ", 8, 5, 0)", -1).still("sheet(" + kind + ", 2147483647, 5, 0)", -1);
        }
        r.due("sheet(0, 7, 5, 0)", 15).due("sheet(1, 7, 4, 0)", 12).due("sheet(2, 7, 3, 0)", 9).due("sheet(3, 7, 3, 0)", -3);
    }

    private static void sheetEntries() {
        Run r = new Run("8: those behind it have 0: the sum of all").come("9;9;9").due("sheet(2, 0, 5, 1)", 0);
        r.due("count(14)", 0).due("sheet(2, 1, 5, 1)", 5).due("climber(0, 0)", 5).due("climber(1, 0)", 0);
        r.due("sheet(2, 2, 5, 1)", 11).due("climber(1, 0)", 6).due("climber(2, 0)", 0).due("sheet(2, 3, 5, 1)", 18);
        r.due("climber(2, 0)", 7).due("sheet(2, 4, 5, 1)", 18).due("sheet(2, 7, 5, 1)", 18).due("count(14)", 18);
        Run f = new Run("8: 7 of them").come("9;9;9;9;9;9;9").due("sheet(2, 7, 0, 1)", 21).due("climber(6, 0)", 6);
        f.due("sheet(2, 6, 1, 1)", 21).due("climber(6, 0)", 0).due("climber(5, 0)", 6);
        new Run("8: no CLIMBERS").due("line()", 0).still("sheet(2, 7, 5, 1)", 0).still("sheet(2, 0, 5, 1)", 0);
    }

    /** The PACE of one, by a sheet of one entry. */
    private static void entry(Run r, int kind, int f, int due) {
        r.due("sheet(" + kind + ", 1, " + f + ", 0)", due).due("climber(0, 0)", due);
    }

    private static void sheetBytes() {
        Run r = new Run("8: of bytes the lowest bits, with their sign; put to 0 .. 9").come("5");
        int[] entries = {0, 9, 10, 127, 128, 255, 256, 265, 266, 383, 384, -1, -128, -129, -247, -256, -251, 0x7FFFFF04,
            Integer.MAX_VALUE, Integer.MIN_VALUE};
        int[] due = {0, 9, 9, 9, 0, 0, 0, 9, 9, 9, 0, 0, 0, 9, 9, 0, 5, 4, 0, 0};
        for (int i = 0; i < entries.length; i++) {
            entry(r, 0, entries[i], due[i]);
        }
        Run s = new Run("8: bytes f, f + step").come("5;5;5").due("sheet(0, 3, 2, 257)", 9).due("climber(2, 0)", 4);
        s.due("sheet(0, 3, 127, 1)", 9).due("climber(1, 0)", 0).due("sheet(0, 3, 3, -128)", 6).due("climber(1, 0)", 0);
    }

    private static void sheetShorts() {
        Run r = new Run("8: of shorts the lowest bits, with their sign; put to 0 .. 9").come("5");
        int[] entries = {0, 9, 10, 128, 256, 32767, 32768, 65535, 65536, 65545, 65546, -1, -32768, -32769, -65531,
            0x7FFF0004, Integer.MAX_VALUE, Integer.MIN_VALUE};
        int[] due = {0, 9, 9, 9, 9, 9, 0, 0, 0, 9, 9, 0, 0, 9, 5, 4, 0, 0};
        for (int i = 0; i < entries.length; i++) {
            entry(r, 1, entries[i], due[i]);
        }
        Run s = new Run("8: shorts f, f + step").come("5;5;5").due("sheet(1, 3, 2, 65537)", 9).due("climber(2, 0)", 4);
        s.due("sheet(1, 3, 32767, 1)", 9).due("climber(1, 0)", 0);
    }

    private static void sheetInts() {
        Run r = new Run("8: ints, put to 0 .. 9").come("5");
        int[] entries = {0, 1, 8, 9, 10, 256, 65536, -1, Integer.MAX_VALUE, Integer.MIN_VALUE};
        int[] due = {0, 1, 8, 9, 9, 9, 9, 0, 9, 0};
        for (int i = 0; i < entries.length; i++) {
            entry(r, 2, entries[i], due[i]);
        }
        Run s = new Run("8: ints f, f + step beyond the greatest").come("5;5;5").due("sheet(2, 3, 2147483647, 1)", 9);
        s.due("climber(1, 0)", 0).due("sheet(2, 3, -2147483648, -1)", 18).due("climber(0, 0)", 0);
        s.due("sheet(2, 3, 4, -2147483648)", 8).due("climber(1, 0)", 0).due("climber(2, 0)", 4);
        s.due("sheet(2, 3, 1, 2147483647)", 1).due("climber(2, 0)", 0);
    }

    private static void sheetBelowZero() {
        Run r = new Run("8: -2: n below 0 (of kinds 0 .. 2; nothing changes)").come("1;2;3").live("s0", 1).due("line()", 3);
        for (int kind = 0; kind <= 2; kind++) {
            r.still("sheet(" + kind + ", -1, 5, 0)", -2).still("sheet(" + kind + ", -2147483648, 5, 0)", -2);
        }
    }

    private static void sheetMissing() {
        int[] lengths = {0, 7, -1, Integer.MIN_VALUE};
        for (int n : lengths) {
            Run r = new Run("8: -3: missing (all 0)").come("1;2;3").live("s0n1w15", 3).due("line()", 3);
            r.due("sheet(3, " + n + ", 5, 5)", -3).row(0, 1, 2).due("count(14)", 0).due("climber(0, 1)", 1);
            r.due("climber(1, 3)", 5).due("count(10)", 1).due("count(3)", 1);
        }
        new Run("8: missing, without CLIMBERS").due("line()", 0).still("sheet(3, 3, 5, 5)", -3);
    }

    private static void sheetCannotBeUndone() {
        Run r = new Run("8: Can't be undone").come("1;2").still("sheet(2, 2, 1, 1)", 3).due("sheet(2, 2, 4, 1)", 9);
        r.due("count(10)", 0).still("undo()", -1).live("s0", 1).due("sheet(2, 2, 7, 1)", 15).due("count(10)", 1);
        r.due("undo()", 0).due("count(14)", 15).due("keep(0)", 1).due("sheet(0, 2, 1, 1)", 3).due("again(0)", 1);
        r.due("count(14)", 3);
    }
}
