/** The section Terms (1 and 2), and promise 1, at their edges: one test for each sentence that names one. */
public final class TermsEdgesTest {
    public static void main(String[] args) {
        newObject();
        climbersAtMostSeven();
        climberAtFirst();
        heightToTopAtMost();
        heightToZeroAtMost();
        wayNoneIsAtTheStile();
        waitFallsToZero();
        builtTo999();
        downsTo9999();
        hourHasNoEnd();
        ruleAtFirst();
        comparisonsBindLeast();
        comparisonsNotOneBehindTheOther();
        addingFromTheLeft();
        timesFromTheLeft();
        byZeroIsZero();
        cutToZero();
        minusAheadOfAThing();
        numberOfThreeDigits();
        bracketsFourInOneAnother();
        nothingIsLeftOfAnotherRule();
        stepsAsInts();
        stepsZeroToThree();
        letterP();
        letterH();
        letterU();
        letterO();
        letterK();
        letterB();
        letterN();
        hourAsAllIsAhead();
        hourOfOneWhoWaits();
        hourTurnsAtTop();
        hourDownByNumbers();
        hourBuiltOfTheNewOwner();
        noneAheadOfOthers();
        rowAtFirst();
        fractions();
        fiveHundredAndTwelveCalls();
        Run.finish();
    }

    private static void newObject() {
        Run r = new Run("1: No CLIMBERS; TOP is 5");
        r.due("count(0)", 0).due("count(1)", 5).due("count(2)", 7).none("climber(0, 0)");
        for (int what = 3; what <= 15; what++) {
            r.due("count(" + what + ")", 0);
        }
        r.still("undo()", -1).still("again(0)", 0).still("again(1)", 0).still("end(1)", 0).asNew();
    }

    private static void climbersAtMostSeven() {
        Run r = new Run("Terms 1: CLIMBERS at most 7").come("0;1;2;3;4;5;6");
        r.due("count(0)", 7).due("climber(6, 0)", 6).stillNone("climber(7, 0)").text("9").emptied("climbers()", -1);
    }

    private static void climberAtFirst() {
        Run r = new Run("Terms 1: PACE 0 .. 9, the rest at first 0").come("0;9").due("climber(0, 0)", 0);
        r.due("climber(1, 0)", 9);
        for (int what = 1; what <= 4; what++) {
            r.due("climber(0, " + what + ")", 0).due("climber(1, " + what + ")", 0);
        }
        // One more comes as the others came, whatever is done already.
        r.due("starts(0)", 1).due("waits(0, 2)", 2).due("backs(0)", 2).due("hours(4)", 0).come("5").due("climber(2, 0)", 5);
        for (int what = 1; what <= 4; what++) {
            r.due("climber(2, " + what + ")", 0);
        }
    }

    private static void heightToTopAtMost() {
        Run r = new Run("Terms 1: up, to TOP at most").come("9").due("starts(0)", 1);
        r.due("hours(1)", 7).due("climber(0, 1)", 3).due("hours(1)", 7).due("climber(0, 1)", 5);
        Run t = new Run("Terms 1: up, to TOP 2").come("9").due("top(2)", 15).due("starts(0)", 1);
        t.due("hours(1)", 7).due("climber(0, 1)", 2).due("climber(0, 2)", 2);
        Run j = new Run("Terms 1: just to TOP").come("9").due("top(3)", 15).due("starts(0)", 1);
        j.due("hours(1)", 7).due("climber(0, 1)", 3).due("climber(0, 2)", 2);
        Run b = new Run("Terms 1: one below TOP").come("9").due("top(4)", 15).due("starts(0)", 1);
        b.due("hours(1)", 7).due("climber(0, 1)", 3).due("climber(0, 2)", 1);
    }

    private static void heightToZeroAtMost() {
        Run r = new Run("Terms 1: down, to 0 at most").come("9").due("starts(0)", 1).due("hours(3)", 7);
        r.due("climber(0, 1)", 2).due("climber(0, 2)", 2).due("hours(1)", 0).due("climber(0, 1)", 0);
        Run o = new Run("Terms 1: one above 0").come("9").due("top(4)", 15).due("starts(0)", 1).due("hours(3)", 7);
        o.due("climber(0, 1)", 1).due("climber(0, 2)", 2).due("count(4)", 0);
        Run j = new Run("Terms 1: just to 0").come("9").due("top(3)", 15).due("starts(0)", 1).due("hours(2)", 0);
        j.due("climber(0, 1)", 0).due("climber(0, 2)", 0).due("count(4)", 1);
    }

    private static void wayNoneIsAtTheStile() {
        Run r = new Run("Terms 1: WAY 0 none").come("9;9").due("starts(0)", 1).due("hours(4)", 0);
        r.due("climber(0, 1)", 0).due("climber(0, 2)", 0).due("count(5)", 0).due("hours(60)", 0).due("climber(0, 1)", 0);
    }

    private static void waitFallsToZero() {
        Run r = new Run("Terms 1: who does not have WAIT 0 has 1 less (with a WAY or not)").come("9;9");
        r.due("waits(0, 1)", 1).due("waits(1, 2)", 2).due("starts(0)", 1).due("hours(1)", 7);
        r.due("climber(0, 3)", 0).due("climber(0, 1)", 0).due("climber(1, 3)", 1).due("hours(1)", 7);
        r.due("climber(0, 3)", 0).due("climber(0, 1)", 3).due("climber(1, 3)", 0).due("hours(1)", 7);
        r.due("climber(0, 3)", 0).due("climber(1, 3)", 0).due("count(13)", 0).due("count(15)", 0);
    }

    private static void builtTo999() {
        Run r = new Run("Terms 1: BUILT 999 at most").come("9;9").due("starts(0)", 1).due("backs(0)", 2);
        for (int i = 1; i <= 16; i++) {
            r.due("hours(60)", 0);
        }
        r.due("hours(38)", 0).due("climber(0, 4)", 998).question("high(0, 1)", 0).row(0, 999);
        r.question("high(0, 2)", 0).row(0, 999).due("hours(1)", 0).due("climber(0, 4)", 999).due("hours(1)", 0);
        r.due("climber(0, 4)", 999).question("shares(99)", 0).row(99, 0).due("starts(1)", 1).due("backs(1)", 2);
        r.due("hours(2)", 1).due("climber(1, 4)", 2).due("count(7)", 1001);
    }

    /** No run of 512 calls comes so far (each needs a setting out, and a DAY has fewer than 30); it is asked all the same, on one object. */
    private static void downsTo9999() {
        LastDownOwns x = new LastDownOwns();
        String seven = "s0s1s2s3s4s5s6n2";
        Run.textTo(x, "9;9;9;9;9;9;9");
        x.climbers();
        x.top(2);
        int downs = 0;
        for (int i = 0; i < 490; i++) {
            Run.textTo(x, seven + seven + seven);
            x.day();
            downs = Math.min(9999, downs + 21);
            Run.equal("Terms 1: DOWNS 9999 at most", x.count(4), downs);
        }
        Run.equal("Terms 1: DOWNS at their end", x.count(4), 9999);
        Run.textTo(x, "s0s1s2s3s4s5s6");
        x.day();
        Run.equal("9: OWNER when DOWNS are at their end", x.hours(2), 6);
        Run.equal("9: whole, when DOWNS are at their end", x.row(0), 7);
        Run.equal("Terms 1: DOWNS stay at their end", x.count(4), 9999);
    }

    private static void hourHasNoEnd() {
        Run r = new Run("Terms 1: HOUR is 1 more");
        for (int i = 1; i <= 200; i++) {
            r.due("hours(60)", 7);
        }
        r.due("count(3)", 12000);
    }

    private static void ruleAtFirst() {
        int[] steps = {1, 1, 1, 1, 2, 2, 2, 2, 3, 3};
        for (int pace = 0; pace <= 9; pace++) {
            Run r = new Run("Terms 1: at first none: 1+p/4").come(String.valueOf(pace)).due("climber(0, 5)", steps[pace]);
            r.by("0").due("climber(0, 5)", 0).due("rule()", 0).due("climber(0, 5)", steps[pace]);
        }
    }

    /** STEPS of one of PACE 8, by a rule. */
    private static void steps(String sentence, String rule, int due) {
        new Run(sentence + ": " + rule).come("8").by(rule).due("climber(0, 5)", due);
    }

    /** A rule that can't be: its sign at p can't stand there. */
    private static void refused(String sentence, String rule, int p) {
        Run r = new Run(sentence + ": " + rule).come("8").by("2").text(rule).emptied("rule()", -1 - p);
        r.text(rule).emptied("law()", -10000 - p).due("climber(0, 5)", 2);
    }

    private static void comparisonsBindLeast() {
        String s = "Terms 1: < > = bind least (two; 1 or 0)";
        steps(s, "1+1<1*3", 1);
        steps(s, "3>1+1", 1);
        steps(s, "1+1>3", 0);
        steps(s, "1=2-1", 1);
        steps(s, "2+1=2+1", 1);
        steps(s, "2<2", 0);
        steps(s, "2<3", 1);
        steps(s, "2>2", 0);
        steps(s, "3>2", 1);
        steps(s, "2=3", 0);
        steps(s, "-1<0", 1);
        steps(s, "2+(3>2)", 3);
        steps(s, "2+(2<2)", 2);
        steps(s, "2+(2>2)", 2);
        steps(s, "2+(2=3)", 2);
    }

    private static void comparisonsNotOneBehindTheOther() {
        String s = "Terms 1: not one behind the other";
        String signs = "<>=";
        for (int i = 0; i < 9; i++) {
            refused(s, "1" + signs.charAt(i / 3) + "2" + signs.charAt(i % 3) + "3", 3);
        }
        refused(s, "1<2+3<4", 5);
        refused(s, "(1<2<3)", 4);
        refused(s, "1<(2<3)<1", 7);
        refused(s, "(1<2)<(2<3)=1", 11);
        refused(s, "1<((((1))))<1", 11);
        steps(s, "(1<2)<3", 1);
        steps(s, "3>(1<2)", 1);
        steps(s, "(1<2)+(1<2)+(1<2)", 3);
        steps(s, "(1<2)=(2<3)", 1);
        steps(s, "((1<2)<2)<2", 1);
    }

    private static void addingFromTheLeft() {
        String s = "Terms 1: + - from the left";
        steps(s, "9-3-5", 1);
        steps(s, "1-2+3", 2);
        steps(s, "p-6-1+1", 2);
        refused(s, "+1", 0);
        refused(s, "1++1", 2);
        refused(s, "1+", 2);
        refused(s, "1-", 2);
    }

    private static void timesFromTheLeft() {
        String s = "Terms 1: * / from the left, ahead of + -";
        steps(s, "8/4/2", 1);
        steps(s, "2*3/4", 1);
        steps(s, "9/2*2-6", 2);
        steps(s, "9-2*4", 1);
        steps(s, "2*4-6", 2);
        steps(s, "1+8/4", 3);
        refused(s, "*1", 0);
        refused(s, "1*/1", 2);
        refused(s, "1/", 2);
    }

    private static void byZeroIsZero() {
        String s = "Terms 1: by 0: 0";
        steps(s, "7/0", 0);
        steps(s, "0/0", 0);
        steps(s, "1+7/0", 1);
        steps(s, "2-7/(1-1)", 2);
        steps(s, "3+-7/0*9", 3);
        steps(s, "7/0/0+1", 1);
        steps(s, "7/(p-8)=0", 1);
    }

    private static void cutToZero() {
        String s = "Terms 1: cut to 0";
        steps(s, "7/2", 3);
        steps(s, "1/2", 0);
        steps(s, "-7/2+5", 2);
        steps(s, "7/-2+5", 2);
        steps(s, "-7/-2", 3);
        steps(s, "-1/2=0", 1);
    }

    private static void minusAheadOfAThing() {
        String s = "Terms 1: - ahead of a thing (any many)";
        steps(s, "-1+3", 2);
        steps(s, "--2", 2);
        steps(s, "---2+3", 1);
        steps(s, "2*-1+3", 1);
        steps(s, "-2*-1", 2);
        steps(s, "2--1", 3);
        steps(s, "2---1", 1);
        steps(s, "-(1-3)", 2);
        steps(s, "-p+9", 1);
        steps(s, "3<-1", 0);
        steps(s, "-".repeat(38) + "3", 3);
        steps(s, "-".repeat(37) + "3+5", 2);
        steps(s, "-".repeat(39) + "3", 0);
        refused(s, "-", 1);
        refused(s, "1+--", 4);
        refused(s, "-*1", 1);
    }

    private static void numberOfThreeDigits() {
        String s = "Terms 1: a NUMBER of 1 to 3 digits";
        steps(s, "2", 2);
        steps(s, "02", 2);
        steps(s, "002", 2);
        steps(s, "000", 0);
        steps(s, "999-997", 2);
        steps(s, "100/50", 2);
        steps(s, "123+456=579", 1);
        refused(s, "0002", 3);
        refused(s, "1234", 3);
        refused(s, "p+1000", 5);
        refused(s, "1 2", 1);
        refused(s, "12p", 2);
        refused(s, "p1", 1);
        refused(s, "1+p2", 3);
        refused(s, "(1)2", 3);
        refused(s, "(1+p)2", 5);
    }

    private static void bracketsFourInOneAnother() {
        String s = "Terms 1: ( ) (at most 4 in one another)";
        steps(s, "(2)", 2);
        steps(s, "((((2))))", 2);
        steps(s, "((((1))))+((((2))))", 3);
        steps(s, "(1)+(1)+(0)+(0)+(0)+(0)+(0)", 2);
        steps(s, "(((1+(1))+(1)))", 3);
        refused(s, "(((((2)))))", 4);
        refused(s, "(1)+(((((2)))))", 8);
        refused(s, "((((1)+((", 8);
        refused(s, "()", 1);
        refused(s, "(", 1);
        refused(s, "(1", 2);
        refused(s, "((1)", 4);
        refused(s, "1)", 1);
        refused(s, "(1))", 3);
        refused(s, ")", 0);
        refused(s, "1(1)", 1);
    }

    private static void nothingIsLeftOfAnotherRule() {
        String[] refused = {"-", "--", "(", "((((", "1+", "1-", "1<", "(1<", "1*-", "-(-", "1+(2*", "12+", "12x", "((((("};
        int[] at = {1, 2, 1, 4, 2, 2, 2, 3, 3, 3, 5, 3, 2, 4};
        for (int i = 0; i < refused.length; i++) {
            Run r = new Run("5: behind " + refused[i]).come("8");
            small(r.text(refused[i]).due("rule()", -1 - at[i]));
            small(r.text(refused[i]).due("law()", -10000 - at[i]));
        }
        String[] taken = {"-3+3", "9-9", "-(1<2)", "((((1))))", "0-1+2-3+4-5", "--------2", "1<2", "123"};
        for (String rule : taken) {
            Run r = new Run("5: behind " + rule).come("8");
            small(r.by(rule));
            small(r.text(rule).due("law()", 0));
        }
    }

    private static void small(Run r) {
        r.by("2").due("climber(0, 5)", 2).by("1<2").due("climber(0, 5)", 1).by("((((3))))").due("climber(0, 5)", 3);
        r.by("-1+3").due("climber(0, 5)", 2).by("3").due("climber(0, 5)", 3).due("rule()", 0).due("climber(0, 5)", 3);
    }

    private static void stepsAsInts() {
        String s = "Terms 1: As ints";
        steps(s, "512*512*512*16", 0);
        steps(s, "512*512*512*16-1", 3);
        steps(s, "512*512*512*16-1+1", 0);
        steps(s, "-512*512*512*16-1", 3);
        steps(s, "512*512*512*16/-1", 0);
        steps(s, "-(512*512*512*16)<0", 1);
        steps(s, "512*512*512*32+2", 2);
        steps(s, "999*999*999*3", 0);
        steps(s, "512*512*512*16<0", 1);
    }

    private static void stepsZeroToThree() {
        String s = "Terms 1: put to 0 .. 3";
        steps(s, "0-1", 0);
        steps(s, "-999", 0);
        steps(s, "0", 0);
        steps(s, "1", 1);
        steps(s, "2", 2);
        steps(s, "3", 3);
        steps(s, "4", 3);
        steps(s, "999", 3);
    }

    private static void letterP() {
        Run r = new Run("Terms 1: p PACE").come("0;3;9").by("p").due("climber(0, 5)", 0).due("climber(1, 5)", 3);
        r.by("p-7").due("climber(2, 5)", 2).due("sheet(2, 3, 8, 1)", 26).due("climber(0, 5)", 1).due("climber(2, 5)", 2);
    }

    private static void letterH() {
        Run r = new Run("Terms 1: h HEIGHT").come("9;9;9").live("t9s0n1s1w29n2", 6).by("h").due("climber(2, 5)", 0);
        r.by("h-7").due("climber(0, 5)", 2).due("climber(1, 5)", 0).by("h-5").due("climber(1, 5)", 1).live("f04", 1);
        r.due("climber(0, 5)", 0).by("h-3").due("climber(0, 5)", 2).live("f09", 1).by("h+1").due("climber(0, 5)", 1);
    }

    private static void letterU() {
        Run r = new Run("Terms 1: u 1 if his WAY is up, else 0").come("1;1;1").by("u").live("s0s1b1", 3);
        r.due("climber(0, 5)", 1).due("climber(1, 5)", 0).due("climber(2, 5)", 0);
        r.by("u+1").due("climber(0, 5)", 2).due("climber(1, 5)", 1).due("climber(2, 5)", 1);
    }

    private static void letterO() {
        Run r = new Run("Terms 1: o 1 if he is OWNER, else 0").come("1;1").by("o");
        r.due("climber(0, 5)", 0).due("climber(1, 5)", 0).live("s1b1n1", 3).due("climber(0, 5)", 0);
        r.due("climber(1, 5)", 1).live("s0b0n1", 3).due("climber(0, 5)", 1).due("climber(1, 5)", 0);
        r.by("o+1").due("climber(0, 5)", 2).due("climber(1, 5)", 1);
    }

    private static void letterK() {
        Run r = new Run("Terms 1: k others with a WAY at his HEIGHT").come("3;0;0;0;0;0;0").by("k");
        r.due("climber(0, 5)", 0).live("s0", 1).due("climber(0, 5)", 0).due("climber(1, 5)", 1);
        r.live("s1b1", 2).due("climber(0, 5)", 1).due("climber(1, 5)", 1).due("climber(2, 5)", 2);
        r.live("s2s3s4s5s6w61", 6).by("k=6").due("climber(0, 5)", 1).due("climber(6, 5)", 1).by("p").due("hours(1)", 1);
        r.by("k").due("climber(0, 5)", 0).by("k=5").due("climber(1, 5)", 1).due("climber(6, 5)", 0);
    }

    private static void letterB() {
        Run r = new Run("Terms 1: b others whose WAY is down below him").come("3;2;1;2").by("p").live("s0s1s2s3n1", 5);
        r.by("b").due("climber(0, 5)", 0).live("b1", 1).due("climber(0, 5)", 1).due("climber(3, 5)", 0);
        r.due("climber(1, 5)", 0).live("b0b2b3", 3).due("climber(0, 5)", 3).due("climber(1, 5)", 1);
        r.due("climber(3, 5)", 1).due("climber(2, 5)", 0);
        Run f = new Run("Terms 1: b, the first one below").come("1;3").by("p").live("s0s1n1b0", 4).by("b");
        f.due("climber(1, 5)", 1).due("climber(0, 5)", 0);
    }

    private static void letterN() {
        Run r = new Run("Terms 1: n HOUR by 7 (rest)").come("1").by("n").due("climber(0, 5)", 0).due("hours(3)", 7);
        r.due("climber(0, 5)", 3).by("n-3").due("hours(3)", 7).due("climber(0, 5)", 3).due("hours(1)", 7);
        r.due("climber(0, 5)", 0).by("n").due("climber(0, 5)", 0).due("hours(1)", 7).due("climber(0, 5)", 1);
    }

    private static void hourAsAllIsAhead() {
        Run r = new Run("Terms 1: all as all is ahead of it").come("0;0;0").by("k").live("s0s1s2n1", 4);
        r.due("climber(0, 1)", 2).due("climber(1, 1)", 2).due("climber(2, 1)", 2);
        Run o = new Run("Terms 1: o ahead of the HOUR").come("9;9").by("1+o*2").live("s0b0n1s0s1b1n1", 7);
        // 1 becomes OWNER in the HOUR in which 0, OWNER ahead of it, goes 3.
        o.due("climber(0, 1)", 3).due("count(2)", 1);
        Run n = new Run("Terms 1: n ahead of the HOUR").come("9").by("n").live("n2s0n1", 3).due("climber(0, 1)", 2);
    }

    private static void hourOfOneWhoWaits() {
        Run r = new Run("Terms 1: who does not have WAIT 0 does not go").come("9").live("s0n1w01n1", 4);
        r.due("climber(0, 1)", 3).due("climber(0, 3)", 0).due("hours(1)", 7).due("climber(0, 1)", 5);
    }

    private static void hourTurnsAtTop() {
        Run r = new Run("Terms 1: who is at TOP, his WAY up, has WAY down from now on").come("9;9").live("s0s1n2", 3);
        r.due("climber(0, 2)", 2).due("climber(0, 1)", 5).live("b0w01", 2).due("climber(0, 2)", 1).due("hours(1)", 7);
        r.due("climber(0, 1)", 5).due("climber(0, 2)", 2).due("climber(1, 1)", 2).due("climber(1, 2)", 2);
    }

    private static void hourDownByNumbers() {
        Run r = new Run("Terms 1: (3) CLIMBERS by their numbers").come("9;9;9").live("s2s0b2b0", 4).due("hours(1)", 2);
        r.row(2, 0).due("count(4)", 2).due("climber(2, 4)", 1).due("climber(0, 4)", 0);
    }

    private static void hourBuiltOfTheNewOwner() {
        Run r = new Run("Terms 1: (4) BUILT of OWNER, if there is one").come("9;9").due("hours(9)", 7).due("count(7)", 0);
        r.live("s0b0n1", 3).due("climber(0, 4)", 1).live("s1b1n1", 3).due("climber(0, 4)", 1).due("climber(1, 4)", 1);
        r.due("hours(1)", 1).due("climber(1, 4)", 2).due("climber(0, 4)", 1);
    }

    /** Each call here has a reason for another answer below 0, too. */
    private static void noneAheadOfOthers() {
        Run r = new Run("Terms 2: NONE comes ahead of other answers below 0").come("9;9").live("s0n1", 2).due("line()", 2);
        r.still("top(1)", -1).still("top(-2147483648)", -1).still("slips(1, 0)", -1).still("slips(1, 10)", -1);
        r.still("sheet(4, -1, 5, 5)", -1).still("sheet(3, 8, 5, 5)", -1).still("stones(1000)", -1).still("stones(-1)", -1);
        r.still("bides(1, 61)", -1).still("rivals(1, -1)", -1).still("ousts(1, 61)", -1).live("s1", 1).still("goes(61)", -1);
        r.still("goes(0)", -1);
        Run n = new Run("Terms 2: NONE ahead of others, without CLIMBERS").still("goes(0)", -1).still("goes(61)", -1);
        n.still("stones(1000)", -1).still("when(0)", -1).still("comes(0)", -1).still("backs(0)", -1).still("slips(0, 1)", -1);
    }

    private static void rowAtFirst() {
        Run r = new Run("Terms 2: ROW: numbers told last").row().due("later(0)", 7).row(0, 0).due("line()", 0).row();
    }

    private static void fractions() {
        Run r = new Run("Terms 2: Fractions in lowest terms (0 by 1)").due("strays(5, 5)", 0).row(0, 1);
        r.due("strays(3, 0)", 0).row(0, 1).due("strays(0, 7)", 0).row(1, 1).due("strays(1, 5)", 0).row(4, 5);
        r.due("top(4)", 15).due("strays(2, 5)", 0).row(1, 2);
    }

    private static void fiveHundredAndTwelveCalls() {
        Run r = new Run("An object is used for at most 512 calls").come("9");
        for (int i = 0; i < 500; i++) {
            r.due("hours(60)", 7);
        }
        r.due("count(3)", 30000).due("count(10)", 12).due("starts(0)", 1).due("backs(0)", 2).due("hours(1)", 0);
        r.due("undo()", 11).due("count(2)", 7);
    }
}
