/** Promises 1 to 8: a new object, THE TEXT, CLIMBERS, THE RULE, TOP, a climber, a sheet. */
public final class ClimbersTest {
    public static void main(String[] args) {
        newObject();
        sign();
        end();
        climbers();
        climbersEverySign();
        climbersRoom();
        ruleWrong();
        ruleEverySign();
        ruleLimits();
        ruleWorth();
        ruleLetters();
        top();
        climber();
        sheet();
        Run.finish();
    }

    private static void newObject() {
        Run r = new Run("1 new object");
        long[] due = {0, 5, 7, 0, 0, 0, 0, 0, 0, 0, 0, 0, 0, 0, 0, 0};
        for (int what = 0; what < due.length; what++) {
            r.due("count(" + what + ")", due[what]);
        }
        r.row().none("climber(0, 0)").still("undo()", -1).still("again(0)", 0).still("again(1)", 0);
    }

    private static void sign() {
        Run r = new Run("2 sign");
        r.due("sign(" + 0x373B333B + ")", 4).due("end(3)", 1).due("climbers()", 2);
        r.due("climber(0, 0)", 7).due("climber(1, 0)", 3);
        for (int i = 1; i <= 20; i++) {
            r.due("sign(-1)", 4 * i);
        }
        r.due("sign(0)", -1).due("count(12)", 80).due("end(77)", 1).due("sign(0)", -1).due("count(12)", 77);
        r.due("end(76)", 1).due("sign(0)", 80);
        r.emptied("climbers()", -1);
        r.due("sign(" + 0xB1000000 + ")", 4).due("end(1)", 1).emptied("climbers()", -1);
    }

    private static void end() {
        Run r = new Run("3 end");
        r.due("end(0)", 1).due("end(1)", 0).due("end(-1)", 0).due("sign(825307441)", 4);
        r.due("end(5)", 0).due("count(12)", 4).due("end(-1)", 0).due("count(12)", 4);
        r.due("end(4)", 1).due("count(12)", 4).due("end(1)", 1).due("count(12)", 1).due("climbers()", 1);
    }

    private static void climbers() {
        Run r = new Run("4 climbers");
        r.emptied("climbers()", 0);
        r.text(";").emptied("climbers()", -1);
        r.text("a").emptied("climbers()", -1);
        r.text("1:").emptied("climbers()", -2);
        r.text("1;").emptied("climbers()", -3);
        r.text("1;2;x").emptied("climbers()", -5);
        r.text("1;/").emptied("climbers()", -3);
        r.text("1;2;3;4;5;6;7;").emptied("climbers()", -14);
        r.text("1;2;3;4;5;6;78").emptied("climbers()", -14);
        r.text("1;2;3;4;5;67;8;9;9;9").emptied("climbers()", -12);
        r.text("1;2;3;4;5;6;").emptied("climbers()", -13);
        r.text("1;2;3;4;5;6;7").due("climbers()", 7).due("count(12)", 0).due("count(0)", 7).due("count(14)", 28);
        r.due("climber(6, 0)", 7).due("climber(6, 1)", 0).due("climber(6, 2)", 0).due("climber(6, 3)", 0);
        r.due("climber(6, 4)", 0).due("count(5)", 0);
        r.text("1").emptied("climbers()", -1);
        r.text("x").emptied("climbers()", -1);
        r.emptied("climbers()", 0);
    }

    /** Each of the 256 signs, where a digit is due and where a ; is. */
    private static void climbersEverySign() {
        for (int c = 0; c < 256; c++) {
            boolean digit = "0123456789".indexOf(c) >= 0;
            Run r = new Run("4 sign " + c);
            r.text((char) c + "x").due("climbers()", digit ? -2 : -1);
            r.text("1" + (char) c + "x").due("climbers()", c == ';' ? -3 : -2);
            r.text("1;" + (char) c + "x").due("climbers()", digit ? -4 : -3).asNew();
        }
    }

    private static void climbersRoom() {
        Run r = new Run("4 room");
        r.text("9;0;9;0").due("climbers()", 4);
        r.text("1;1;1;1").emptied("climbers()", -7);
        r.text("1;1;1;1x").emptied("climbers()", -7);
        r.text("1;1;1;1;1;1;1;1;1;1").emptied("climbers()", -7);
        r.text("1;1;1;").emptied("climbers()", -7);
        r.text("1;1x").emptied("climbers()", -4);
        r.text("2;3;4").due("climbers()", 3).due("count(0)", 7).due("climber(4, 0)", 2).due("climber(3, 0)", 0);
    }

    private static void ruleWrong() {
        Run r = new Run("5 wrong signs");
        r.text("9").due("climbers()", 1);
        String[] texts = {"x", "P", "*p", ")", "()", "p)", "p p", "pp", "1p", "p1", "(p)1", "(p)p", "1234", "p+",
            "p-", "-", "--", "p*/2", "p+*2", "+p", "p++p", "p<", "p<p<p", "p=p>p", "(p<p)<p<p", "(p", "((p)", "(p))",
            "((((p))))", "(((((p)))))", "p<(p<p<p)", "p<(p<p)+(p=p)", "<p", "p<<p", "p<=p", "12.", "p;"};
        long[] due = {-1, -1, -1, -1, -2, -2, -2, -2, -2, -2, -4, -4, -4, -3,
            -3, -2, -3, -3, -3, -1, -3, -3, -4, -4, -8, -3, -5, -4,
            0, -5, -7, 0, -1, -3, -3, -3, -2};
        for (int i = 0; i < texts.length; i++) {
            r.text(texts[i]);
            if (due[i] < 0) {
                r.emptied("rule()", due[i]).text(texts[i]).emptied("law()", -9999 + due[i]);
            } else {
                r.due("rule()", due[i]).due("count(12)", 0).due("rule()", 0);
            }
        }
        r.due("climber(0, 5)", 3);
    }

    /** Each of the 256 signs, ahead of a thing and behind each kind of thing; none may stand for a sign held inside. */
    private static void ruleEverySign() {
        String[] ahead = {"", "-", "(", "p+", "p<", "23*", "23", "p", "(p)", "(p", "1<2", "(1<2", "999"};
        String thing = "-(0123456789phuokbn";
        String join = "+-*/";
        String[] can = {thing, thing, thing, thing, thing, thing, join + "<>=0123456789", join + "<>=", join + "<>=",
            join + "<>=)", join + "0123456789", join + "0123456789)", join + "<>="};
        for (int c = 0; c < 256; c++) {
            Run r = new Run("5 sign " + c);
            for (int i = 0; i < ahead.length; i++) {
                // No RULE has the sign 161: behind a sign that can stand there it is the wrong one.
                String text = ahead[i] + (char) c + (char) 161;
                int due = -1 - ahead[i].length() - (can[i].indexOf(c) >= 0 ? 1 : 0);
                r.text(text).due("rule()", due).text(text).due("law()", -9999 + due);
            }
            r.asNew();
        }
    }

    private static void ruleLimits() {
        Run r = new Run("5 40 signs");
        r.text("3").due("climbers()", 1);
        String ones = "1+1+1+1+1+1+1+1+1+1+1+1+1+1+1+1+1+1+1+1+";
        r.text(ones).emptied("rule()", -41);
        r.text(ones + "1").emptied("rule()", -41);
        r.text(ones.substring(0, 39) + "0").due("rule()", 0).due("climber(0, 5)", 3);
        r.text(ones.substring(0, 39) + "00").emptied("rule()", -41);
        r.text(ones.substring(0, 38) + "x00000").emptied("rule()", -39);
        r.text(ones.substring(0, 39) + "((((").emptied("rule()", -40);
        r.text(ones.substring(0, 36) + "(((((((").emptied("rule()", -41);
        r.text("-".repeat(39) + "2").due("rule()", 0).due("climber(0, 5)", 0);
        r.text("-".repeat(38) + "2").due("rule()", 0).due("climber(0, 5)", 2);
        r.text("-".repeat(40)).emptied("rule()", -41);
        r.text("-".repeat(39)).emptied("rule()", -40);
        r.text("-".repeat(80)).emptied("law()", -10040);
        r.due("rule()", 0).due("climber(0, 5)", 1);
    }

    private static void ruleWorth() {
        Run r = new Run("5 worth");
        r.text("8").due("climbers()", 1).due("climber(0, 5)", 3);
        String[] rules = {"0", "1", "2", "3", "4", "999", "-1", "002", "p-6", "9-3-5", "8/4/2", "8/4*2=4", "1+2*3=7",
            "(1+2)*3=9", "-7/2=-3", "7/-2=-3", "-7/-2=3", "p/0", "1/(p-8)+2", "2--1=3", "---1=-1", "-2*-3=6", "-p*-1=8",
            "1+2<2+2", "2+2<1+2", "(1<2)<2", "(1<2)+(2>1)", "1>2", "2>2", "2<2", "2=2", "(2=2)=(3=3)", "-(1<2)+2",
            "999*999*999*999<0", "512*512*512*16/-1<0", "512*512*512*16-1>0", "((((p))))/4", "3-(2-(1-(p-8)))", "p<9>0"};
        long[] due = {0, 1, 2, 3, 3, 3, 0, 2, 2, 1, 1, 1, 1,
            1, 1, 1, 1, 0, 2, 1, 1, 1, 1,
            1, 0, 1, 2, 0, 0, 0, 1, 1, 1,
            1, 1, 1, 2, 2, -4};
        for (int i = 0; i < rules.length; i++) {
            r.text(rules[i]);
            if (due[i] < 0) {
                r.emptied("rule()", due[i]);
            } else {
                r.due("rule()", 0).due("climber(0, 5)", due[i]);
            }
        }
    }

    private static void ruleLetters() {
        Run r = new Run("5 letters");
        r.text("4;1;1;1").due("climbers()", 4).text("2").due("rule()", 0);
        r.due("starts(0)", 1).due("starts(1)", 2).due("starts(2)", 3).due("waits(2, 9)", 9);
        r.text("k").due("rule()", 0).due("climber(0, 5)", 2).due("climber(1, 5)", 2).due("climber(3, 5)", 3);
        r.text("2").due("rule()", 0).due("hours(2)", 7).due("backs(1)", 2).due("slips(1, 1)", 3);
        // Now: 0 up at 4; 1 down at 3; 2 up at 0, waiting; 3 at the stile.
        r.text("h").due("rule()", 0).due("climber(1, 5)", 3).due("climber(2, 5)", 0);
        r.text("h=4").due("rule()", 0).due("climber(0, 5)", 1).due("climber(1, 5)", 0);
        r.text("u").due("rule()", 0).due("climber(0, 5)", 1).due("climber(1, 5)", 0).due("climber(2, 5)", 1);
        r.due("climber(3, 5)", 0);
        r.text("b").due("rule()", 0).due("climber(0, 5)", 1).due("climber(1, 5)", 0).due("climber(2, 5)", 0);
        r.text("k").due("rule()", 0).due("climber(3, 5)", 1).due("climber(2, 5)", 0).due("climber(0, 5)", 0);
        r.text("n").due("rule()", 0).due("climber(0, 5)", 2);
        r.text("o").due("rule()", 0).due("climber(1, 5)", 0).due("slips(1, 9)", 0).due("slips(2, 1)", 0);
        r.due("slips(0, 4)", 0).text("b").due("rule()", 0).due("climber(0, 5)", 0).text("o").due("rule()", 0);
        r.due("hours(1)", 2).row(3, 0).due("climber(2, 5)", 1).due("climber(1, 5)", 0).due("climber(3, 5)", 0);
        r.text("n=0").due("rule()", 0).due("climber(0, 5)", 0).due("hours(4)", 2).due("climber(0, 5)", 1);
        r.text("n").due("rule()", 0).due("hours(1)", 2).due("climber(0, 5)", 1).due("count(3)", 8);
    }

    private static void top() {
        Run r = new Run("6 top");
        r.still("top(1)", -1).still("top(10)", -1).still("top(-5)", -1).still("top(5)", -2);
        r.due("top(9)", 15).due("count(1)", 9).due("top(2)", 19).due("top(6)", 12).due("count(10)", 3);
        r.text("9").due("climbers()", 1).due("count(10)", 0).due("starts(0)", 1).due("hours(1)", 7);
        r.due("climber(0, 1)", 3).still("top(2)", -3).still("top(6)", -2).due("top(3)", 16);
        // He stands at TOP with his WAY up: he turns in the next HOUR, and goes down in the one behind it.
        r.due("climber(0, 2)", 1).due("hours(1)", 7).due("climber(0, 1)", 3).due("climber(0, 2)", 2);
        r.due("hours(1)", 0).row(1, 0).due("climber(0, 1)", 0).due("top(2)", 13);
    }

    private static void climber() {
        Run r = new Run("7 climber");
        r.none("climber(0, 0)").text("9;2").due("climbers()", 2);
        r.none("climber(2, 0)").none("climber(-1, 0)").none("climber(0, 6)").none("climber(0, -1)").none("climber(9, 9)");
        r.due("starts(0)", 1).due("waits(1, 5)", 5).due("hours(3)", 7);
        r.due("climber(0, 0)", 9).due("climber(0, 1)", 2).due("climber(0, 2)", 2).due("climber(0, 3)", 0);
        r.due("climber(0, 4)", 0).due("climber(0, 5)", 3).due("climber(1, 3)", 2).due("climber(1, 5)", 1);
        r.due("hours(3)", 0).due("climber(0, 4)", 3).due("climber(1, 3)", 0).due("climber(0, 2)", 0);
    }

    private static void sheet() {
        Run r = new Run("8 sheet");
        r.due("sheet(0, 7, 1, 1)", 0).text("1;2;3").due("climbers()", 3);
        r.due("sheet(2, 3, 5, 100)", 23).due("climber(0, 0)", 5).due("climber(1, 0)", 9).due("climber(2, 0)", 9);
        r.due("sheet(0, 2, 260, 0)", 8).due("climber(1, 0)", 4).due("climber(2, 0)", 0);
        r.due("sheet(0, 3, 127, 1)", 9).due("climber(0, 0)", 9).due("climber(1, 0)", 0).due("climber(2, 0)", 0);
        r.due("sheet(1, 3, 32767, 1)", 9).due("sheet(1, 2, 65540, 65536)", 8).due("sheet(2, 2, 2147483647, 1)", 9);
        r.due("sheet(1, 3, 260, -129)", 20).due("climber(2, 0)", 2);
        r.due("sheet(0, 7, 3, 0)", 9).due("count(14)", 9).due("sheet(2, 3, -1, 1)", 1).due("sheet(0, 0, 5, 5)", 0);
        r.due("sheet(2, 3, 3, -1)", 6).still("sheet(4, 1, 1, 1)", -1).still("sheet(-1, 1, 1, 1)", -1);
        r.still("sheet(2, 8, 1, 1)", -1).still("sheet(3, 8, 1, 1)", -1).still("sheet(4, -1, 1, 1)", -1);
        r.still("sheet(0, -1, 1, 1)", -2).still("sheet(2, -2147483648, 1, 1)", -2).due("count(14)", 6);
        r.due("sheet(3, 3, 1, 1)", -3).due("count(14)", 0);
        r.due("sheet(2, 3, 3, 0)", 9).due("sheet(3, -1, 1, 1)", -3).due("count(14)", 0).due("count(10)", 0);
        r.due("starts(0)", 1).due("sheet(2, 3, 3, 0)", 9).due("count(10)", 1).due("undo()", 0).due("count(14)", 9);
    }
}
