import java.util.ArrayList;
import java.util.List;
import java.util.NoSuchElementException;
import java.util.Random;

/** Runs of drawn calls, answered by LastDownOwns and by Oracle, each answer, ROW and state compared. */
public final class RandomRunsTest {
    private static final String[] CALLS = {"sign 1", "end 1", "climbers 0", "rule 0", "top 1", "climber 2", "sheet 4",
        "hours 1", "starts 1", "backs 1", "waits 2", "slips 2", "day 0", "undo 0", "later 1", "when 1", "shares 1",
        "order 1", "empty 0", "high 2", "comes 1", "crowd 1", "changes 1", "ways 1", "peaks 2", "bides 2", "rivals 2",
        "goes 1", "ousts 2", "lawyers 1", "rope 0", "line 0", "nearest 0", "stones 1", "parties 0", "heard 2",
        "forget 0", "fits 0", "asks 0", "saw 2", "denies 0", "laws 0", "looks 0", "strays 2", "bend 2", "rests 1",
        "law 0", "years 2", "keep 1", "again 1", "count 1", "row 1"};
    private static final String[] DOINGS = {"starts 1", "starts 1", "starts 1", "hours 1", "hours 1", "backs 1",
        "waits 2", "slips 2", "top 1", "sheet 4", "undo 0", "keep 1", "again 1"};
    private static final int RUNS = 400;
    private static final int CALLS_OF_A_RUN = 512;

    private final Random random;
    private final int number;
    private final LastDownOwns x = new LastDownOwns();
    private final Oracle oracle = new Oracle();
    private final List<String> done = new ArrayList<>();
    private boolean right = true;

    private RandomRunsTest(int number) {
        this.number = number;
        random = new Random(number);
    }

    public static void main(String[] args) {
        int wrong = 0;
        for (int run = 0; run < RUNS && wrong < 3; run++) {
            if (!new RandomRunsTest(run).goes()) {
                wrong++;
            }
        }
        System.out.println(RUNS + " drawn runs, " + wrong + " not as due");
        if (wrong != 0) {
            System.exit(1);
        }
    }

    private boolean goes() {
        while (right && done.size() < CALLS_OF_A_RUN) {
            int kind = random.nextInt(12);
            if (kind == 0) {
                text(climbersText());
                compare("climbers()");
            } else if (kind == 1) {
                text(ruleText());
                compare(random.nextBoolean() ? "rule()" : "law()");
            } else if (kind == 2) {
                text(dayText());
                compare("day()");
            } else {
                String[] from = kind < 6 ? DOINGS : CALLS;
                compare(drawnCall(from[random.nextInt(from.length)]));
            }
        }
        return right;
    }

    private String drawnCall(String call) {
        String[] parts = call.split(" ");
        StringBuilder s = new StringBuilder(parts[0]).append('(');
        for (int i = 0; i < Integer.parseInt(parts[1]); i++) {
            s.append(i > 0 ? ", " : "").append(number(parts[0], i));
        }
        return s.append(')').toString();
    }

    private int number(String call, int place) {
        boolean ofClimber = place == 0 && "climber starts backs waits slips when high comes peaks bides rivals ousts"
            .contains(call);
        int kind = random.nextInt(20);
        if (kind == 0) {
            return new int[] {-1, -2, Integer.MAX_VALUE, Integer.MIN_VALUE, 1000}[random.nextInt(5)];
        }
        if (ofClimber) {
            return random.nextInt(8);
        }
        if (call.equals("sign") || call.equals("years") && place == 0 || call.equals("sheet") && place > 1) {
            return random.nextInt() >> random.nextInt(32);
        }
        if (call.equals("hours")) {
            return random.nextInt(random.nextInt(4) == 0 ? 62 : 6);
        }
        return random.nextInt(new int[] {3, 6, 11, 22, 62, 102}[random.nextInt(6)]);
    }

    private String climbersText() {
        StringBuilder s = new StringBuilder();
        int lines = random.nextInt(12) == 0 ? random.nextInt(9) : random.nextInt(3);
        for (int i = 0; i < lines; i++) {
            s.append(i > 0 ? ";" : "").append(random.nextInt(10));
        }
        return spoiled(s, ";0123456789x");
    }

    private String dayText() {
        StringBuilder s = new StringBuilder();
        int acts = random.nextInt(random.nextInt(6) == 0 ? 34 : 5);
        for (int i = 0; i < acts && s.length() < 70; i++) {
            char c = "nsbwft".charAt(random.nextInt(6));
            s.append(c).append(random.nextInt(c == 'n' || c == 't' ? 10 : 8));
            if (c == 'w' || c == 'f') {
                s.append(1 + random.nextInt(9));
            }
        }
        return spoiled(s, "nsbwft0123456789");
    }

    private String ruleText() {
        StringBuilder s = new StringBuilder();
        int kind = random.nextInt(10);
        if (kind == 0) {
            for (int i = random.nextInt(50); i >= 0; i--) {
                s.append("phuokbn0123456789+-*/<>=()".charAt(random.nextInt(26)));
            }
            return s.toString();
        }
        if (kind > 1) {
            expression(s, random.nextInt(4), 0);
        }
        return spoiled(s, "phuokbn0123456789+-*/<>=()");
    }

    private void expression(StringBuilder s, int size, int depth) {
        if (size == 0) {
            s.append("-".repeat(random.nextInt(8) == 0 ? random.nextInt(3) : 0));
            if (random.nextInt(3) == 0) {
                s.append(random.nextInt(new int[] {4, 10, 1000}[random.nextInt(3)]));
            } else {
                s.append("phuokbn".charAt(random.nextInt(7)));
            }
            return;
        }
        boolean round = random.nextInt(3) == 0;
        s.append(round ? "(" : "");
        expression(s, size - 1 - random.nextInt(size), depth + 1);
        s.append("++--*/<>=".charAt(random.nextInt(round || depth == 0 ? 9 : 6)));
        expression(s, size - 1 - random.nextInt(size), depth + 1);
        s.append(round ? ")" : "");
    }

    private String spoiled(StringBuilder s, String signs) {
        if (s.length() > 0 && random.nextInt(8) == 0) {
            boolean anySign = random.nextInt(3) == 0;
            char sign = anySign ? (char) random.nextInt(256) : signs.charAt(random.nextInt(signs.length()));
            s.setCharAt(random.nextInt(s.length()), sign);
        }
        if (random.nextInt(8) == 0) {
            s.setLength(random.nextInt(s.length() + 1));
        }
        return s.length() > 76 ? s.substring(0, 76) : s.toString();
    }

    private void text(String s) {
        compare("end(0)");
        for (int p = 0; p < s.length(); p += 4) {
            int v = 0;
            for (int i = 0; i < 4; i++) {
                v = v << 8 | (p + i < s.length() ? s.charAt(p + i) : 0);
            }
            compare("sign(" + v + ")");
        }
        compare("end(" + s.length() + ")");
    }

    private void compare(String call) {
        if (!right) {
            return;
        }
        done.add(call);
        String got = answer(x, call) + state(x);
        String want = answer(oracle, call) + state(oracle);
        if (!got.equals(want)) {
            right = false;
            System.out.println("run " + number + ", call " + done.size() + ": " + done);
            System.out.println("  answered " + got);
            System.out.println("  due is   " + want);
        }
    }

    private static String answer(Object on, String call) {
        try {
            return Run.answerOf(on, call);
        } catch (NoSuchElementException e) {
            return "NoSuchElementException";
        }
    }

    private static String state(LastDownOwns x) {
        StringBuilder s = new StringBuilder(" | ");
        for (int what = 0; what < 16; what++) {
            s.append(x.count(what)).append(' ');
        }
        for (int i = 0; i < x.count(11); i++) {
            s.append(i == 0 ? "row " : "").append(x.row(i)).append(' ');
        }
        for (int i = 0; i < x.count(0); i++) {
            s.append(": ");
            for (int what = 0; what < 6; what++) {
                s.append(x.climber(i, what)).append(' ');
            }
        }
        return s.toString();
    }

    private static String state(Oracle x) {
        StringBuilder s = new StringBuilder(" | ");
        for (int what = 0; what < 16; what++) {
            s.append(x.count(what)).append(' ');
        }
        for (int i = 0; i < x.count(11); i++) {
            s.append(i == 0 ? "row " : "").append(x.row(i)).append(' ');
        }
        for (int i = 0; i < x.count(0); i++) {
            s.append(": ");
            for (int what = 0; what < 6; what++) {
                s.append(x.climber(i, what)).append(' ');
            }
        }
        return s.toString();
    }
}
