/**
 * Terms 2: refused calls answer NONE, or false, and change nothing but THE TEXT; questions change nothing but the ROW.
 * Every call of the face is asked, with the first numbers that are refused on both sides and the least and the greatest
 * int, on an object where nothing is there yet, on a busy one, and on one where no room is left.
 */
public final class RefusedTest {
    private static final int LEAST = Integer.MIN_VALUE;
    private static final int MOST = Integer.MAX_VALUE;
    /** Calls of one number: the promise, the call, the first and the last number that is taken. */
    private static final String[][] ONE_NUMBER = {{"6", "top", "2", "9"}, {"9", "hours", "0", "60"},
        {"16", "later", "0", "99"}, {"18", "shares", "1", "99"}, {"19", "order", "1", "99"}, {"23", "crowd", "0", "99"},
        {"24", "changes", "1", "99"}, {"25", "ways", "1", "99"}, {"29", "goes", "1", "60"}, {"31", "lawyers", "0", "9"},
        {"35", "stones", "0", "999"}, {"47", "rests", "0", "20"}, {"52", "count", "0", "15"}};
    /** Calls of one climber alone. */
    private static final String[][] OF_ONE = {{"10", "starts"}, {"11", "backs"}, {"17", "when"}, {"22", "comes"}};
    /** Calls of one climber and a number. */
    private static final String[][] OF_ONE_AND_NUMBER = {{"12", "waits", "1", "9"}, {"13", "slips", "1", "9"},
        {"21", "high", "0", "99"}, {"26", "peaks", "1", "60"}, {"27", "bides", "0", "60"}, {"28", "rivals", "0", "60"},
        {"30", "ousts", "0", "60"}};
    /** Calls of two numbers: the bounds of the first, then of the second. */
    private static final String[][] TWO_NUMBERS = {{"41", "saw", "0", "9", "0", "3"}, {"45", "strays", "0", "TOP", "0", "10"},
        {"46", "bend", "1", "20", "1", "20"}};
    private static final String[] TEXTS_REFUSED = {"~", "1;", "(", "n", "x1234567"};
    private static final String[] QUESTIONS = {"later(9)", "shares(9)", "order(9)", "empty()", "crowd(9)", "changes(9)",
        "ways(9)", "lawyers(1)", "rope()", "line()", "stones(0)", "parties()", "fits()", "laws()", "strays(1, 3)",
        "bend(3, 2)", "rests(1)", "years(7, 40)", "count(0)"};
    private static final String[] QUESTIONS_OF_CLIMBERS = {"high(0, 9)", "peaks(0, 9)", "rivals(0, 0)", "ousts(1, 0)",
        "nearest()", "goes(9)", "bides(0, 0)", "when(0)"};

    public static void main(String[] args) {
        String[] states = {"new", "busy", "full"};
        for (String state : states) {
            oneNumber(state);
            ofOne(state);
            ofOneAndNumber(state);
            twoNumbers(state);
            otherCalls(state);
            kept(state);
            texts(state);
            questions(state);
            questionsAmongOthers(state);
        }
        questionsAtTopNine();
        noRoomLeft();
        Run.finish();
    }

    private static Run in(String state, String name) {
        Run r = new Run(name + ", " + state);
        return state.equals("new") ? r : state.equals("busy") ? busy(r) : full(r);
    }

    private static int climbersIn(String state) {
        return state.equals("new") ? 0 : state.equals("busy") ? 4 : 7;
    }

    /** Something of everything, and room for more. 0 is OWNER and on his WAY, 2 is up at 3, 3 waits. */
    private static Run busy(Run r) {
        r.come("9;0;8;9").live("s0b0n2", 3).due("keep(1)", 1).live("s0s2n1w32", 4).by("1+p/3").due("heard(0, 4)", 1);
        return r.due("saw(4, 2)", 1).due("line()", 4).text("n1s1");
    }

    /** 7 CLIMBERS, 12 that can be undone, 12 heard, 10 seen, both numbers kept, 80 signs. */
    private static Run full(Run r) {
        r.come("9;9;9;9;9;9;9").due("top(9)", 15).live("s0s1s2s3s4s5s6n1", 8).due("keep(0)", 1);
        r.live("w09".repeat(11), 11).due("keep(1)", 1);
        for (int i = 0; i < 13; i++) {
            r.due("hours(" + (i == 5 ? 20 : 1) + ")", i < 5 ? (i < 4 ? 7 : 6) : 6);
        }
        r.due("starts(1)", 2);
        for (int i = 1; i <= 12; i++) {
            r.due("heard(" + i % 5 + ", 0)", i);
        }
        for (int i = 1; i <= 10; i++) {
            r.due("saw(" + i % 5 + ", 3)", i);
        }
        return r.due("line()", 7).text("n1s1w01n".repeat(10));
    }

    private static void oneNumber(String state) {
        for (String[] c : ONE_NUMBER) {
            Run r = in(state, c[0] + ": " + c[1]);
            int[] refused = {Integer.parseInt(c[2]) - 1, Integer.parseInt(c[3]) + 1, LEAST, MOST};
            for (int n : refused) {
                r.still(c[1] + "(" + n + ")", -1);
            }
        }
    }

    private static void ofOne(String state) {
        int[] nobodies = {-1, climbersIn(state), 7, LEAST, MOST};
        for (String[] c : OF_ONE) {
            Run r = in(state, c[0] + ": " + c[1]);
            for (int who : nobodies) {
                r.still(c[1] + "(" + who + ")", -1);
            }
        }
    }

    private static void ofOneAndNumber(String state) {
        int[] nobodies = {-1, climbersIn(state), 7, LEAST, MOST};
        for (String[] c : OF_ONE_AND_NUMBER) {
            Run r = in(state, c[0] + ": " + c[1]);
            for (int who : nobodies) {
                r.still(c[1] + "(" + who + ", " + c[2] + ")", -1).still(c[1] + "(" + who + ", " + c[3] + ")", -1);
            }
            int[] refused = {Integer.parseInt(c[2]) - 1, Integer.parseInt(c[3]) + 1, LEAST, MOST};
            for (int n : refused) {
                r.still(c[1] + "(0, " + n + ")", -1).still(c[1] + "(" + n + ", " + n + ")", -1);
            }
        }
    }

    private static void twoNumbers(String state) {
        for (String[] c : TWO_NUMBERS) {
            Run r = in(state, c[0] + ": " + c[1]);
            int top = state.equals("full") ? 9 : 5;
            int most = c[3].equals("TOP") ? top : Integer.parseInt(c[3]);
            int[] first = {Integer.parseInt(c[2]) - 1, most + 1, LEAST, MOST};
            int[] second = {Integer.parseInt(c[4]) - 1, Integer.parseInt(c[5]) + 1, LEAST, MOST};
            for (int i = 0; i < 4; i++) {
                r.still(c[1] + "(" + first[i] + ", 1)", -1).still(c[1] + "(1, " + second[i] + ")", -1);
                r.still(c[1] + "(" + first[i] + ", " + second[i] + ")", -1);
            }
        }
    }

    private static void otherCalls(String state) {
        int climbers = climbersIn(state);
        int signs = state.equals("new") ? 0 : state.equals("busy") ? 4 : 80;
        Run r = in(state, "3, 7, 8, 37, 49, 53: end, climber, sheet, heard, years, row");
        int[] extremes = {-1, LEAST, MOST};
        for (int v : extremes) {
            r.still("end(" + v + ")", 0).stillNone("climber(" + v + ", 0)").stillNone("climber(0, " + v + ")");
            r.still("sheet(" + v + ", 3, 4, 1)", -1).still("heard(" + v + ", 0)", -1).still("heard(0, " + v + ")", -1);
            r.still("years(1, " + v + ")", -1).stillNone("row(" + v + ")");
        }
        r.still("end(" + (signs + 1) + ")", 0).stillNone("climber(" + climbers + ", 0)").stillNone("climber(0, 6)");
        r.still("sheet(4, 3, 4, 1)", -1).still("sheet(2, 8, 4, 1)", -1).still("sheet(2, -1, 4, 1)", -2);
        r.still("sheet(3, 8, 4, 1)", -1).still("heard(5, 0)", -1).still("heard(2, 3)", -1).still("years(1, 0)", -1);
        r.still("years(1, 61)", -1).stillNone("row(" + climbers + ")");
    }

    private static void kept(String state) {
        Run r = in(state, "50, 51: keep, again");
        int[] others = {-1, 2, LEAST, MOST};
        for (int i : others) {
            r.still("keep(" + i + ")", 0).still("again(" + i + ")", 0);
        }
        if (!state.equals("full")) {
            r.still("again(0)", 0);
        }
    }

    /** A refused call that reads THE TEXT empties it, and nothing else. */
    private static void texts(String state) {
        String[][] calls = {{"4", "climbers()"}, {"5", "rule()"}, {"14", "day()"}, {"48", "law()"}};
        int[][] at = {{0, 2, 0, 0, 0}, {0, 1, 1, 1, 0}, {0, 0, 0, 1, 0}, {0, 1, 1, 1, 0}};
        for (int c = 0; c < calls.length; c++) {
            Run r = in(state, calls[c][0] + ": " + calls[c][1]);
            for (int t = 0; t < TEXTS_REFUSED.length; t++) {
                int p = at[c][t];
                // n is a letter of a RULE, and where no CLIMBERS fit, the first sign is wrong.
                if (TEXTS_REFUSED[t].equals("n") && (c == 1 || c == 3)) {
                    continue;
                }
                p = c == 0 && state.equals("full") ? 0 : p;
                r.text(TEXTS_REFUSED[t]).emptied(calls[c][1], (c == 3 ? -10000 : -1) - p);
            }
        }
    }

    private static void questions(String state) {
        for (String call : QUESTIONS) {
            in(state, "Terms 2: Questions change nothing: " + call).asks(call);
        }
        for (String call : QUESTIONS_OF_CLIMBERS) {
            if (!state.equals("new")) {
                in(state, "Terms 2: Questions change nothing: " + call).asks(call);
            }
        }
    }

    /** What a question works with is nothing that the next one sees: all of them twice, in two orders. */
    private static void questionsAmongOthers(String state) {
        String[] calls = {"looks()", "shares(99)", "crowd(99)", "ways(99)", "rope()", "lawyers(0)", "rope()", "lawyers(1)",
            "laws()", "looks()", "bend(20, 3)", "bend(2, 9)", "bend(9, 2)", "peaks(0, 60)", "bides(1, 60)", "rivals(2, 60)",
            "goes(60)", "ousts(0, 60)", "years(3, 60)", "later(99)", "order(99)", "crowd(0)", "when(0)", "empty()",
            "changes(99)", "high(0, 99)", "comes(0)", "stones(1)", "parties()", "asks()", "fits()", "rests(2)", "line()"};
        String[] back = new String[calls.length];
        for (int i = 0; i < calls.length; i++) {
            back[i] = calls[calls.length - 1 - i];
        }
        in(state, "Terms 2: Questions change nothing, one behind the other").asksAll(calls);
        in(state, "Terms 2: Questions change nothing, the other way round").asksAll(back);
    }

    private static void questionsAtTopNine() {
        Run r = new Run("Terms 2: Questions, all over the mountain").come("0;2;4;8;9").live("t9s4s3s2s1s0n3w49", 8);
        r.asksAll("crowd(99)", "crowd(0)", "rope()", "crowd(99)", "line()", "lawyers(1)", "rope()", "nearest()", "shares(99)",
            "ways(99)", "shares(99)", "ways(9)", "crowd(0)", "rope()", "looks()", "laws()", "looks()");
    }

    private static void noRoomLeft() {
        Run r = in("full", "2, 4, 37, 41: no room left");
        r.still("sign(0)", -1).still("sign(" + LEAST + ")", -1).still("sign(" + MOST + ")", -1);
        r.still("heard(0, 0)", -1).still("heard(4, 1)", -1).still("saw(0, 0)", -1).still("saw(9, 3)", -1);
        r.text("1").emptied("climbers()", -1).text("1;1").emptied("climbers()", -1).due("count(10)", 12);
        Run n = in("new", "15, 20, 34, 38, 40, 42: nothing there yet").still("undo()", -1).still("nearest()", -2);
        n.still("asks()", -2).still("goes(1)", -2).still("stones(1)", -2).still("forget()", 0).still("denies()", 0);
        n.still("rule()", 0).still("climbers()", 0).still("end(0)", 1).asNew();
    }
}
