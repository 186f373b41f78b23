import java.lang.reflect.InvocationTargetException;
import java.lang.reflect.Method;
import java.util.ArrayList;
import java.util.Arrays;
import java.util.HashMap;
import java.util.List;
import java.util.Map;
import java.util.NoSuchElementException;

/** A run of calls on a new object, each with the answer that is due. Calls are written as texts: "later(4)". */
final class Run {
    /** What later calls answer is free, so no object of a run is asked more. */
    private static final int MOST_CALLS = 512;
    private static final Map<String, Method> METHODS = new HashMap<>();
    private static int wrong = 0;
    private static int asked = 0;
    private final String name;
    private final LastDownOwns x = new LastDownOwns();
    private int used = 0;
    /** The calls that may have changed something. */
    private final List<String> calls = new ArrayList<>();

    Run(String name) {
        this.name = name;
    }

    /** THE TEXT becomes s. */
    Run text(String s) {
        answer("end(0)");
        for (int p = 0; p < s.length(); p += 4) {
            answer("sign(" + fourSigns(s, p) + ")");
        }
        if (!answer("end(" + s.length() + ")").equals("1")) {
            blame("text " + s, "false", "true");
        }
        return this;
    }

    private static int fourSigns(String s, int p) {
        int v = 0;
        for (int i = 0; i < 4; i++) {
            v = v << 8 | (p + i < s.length() ? s.charAt(p + i) & 255 : 0);
        }
        return v;
    }

    /** THE TEXT of an object that is no run becomes s. */
    static void textTo(LastDownOwns on, String s) {
        on.end(0);
        for (int p = 0; p < s.length(); p += 4) {
            on.sign(fourSigns(s, p));
        }
        on.end(s.length());
    }

    /** Likewise, an answer of such an object. */
    static void equal(String name, long got, long want) {
        asked++;
        if (got != want) {
            new Run(name).blame("it", String.valueOf(got), String.valueOf(want));
        }
    }

    /** CLIMBERS of these PACES come. */
    Run come(String paces) {
        return text(paces).due("climbers()", (paces.length() + 1) / 2);
    }

    /** THE RULE becomes s. */
    Run by(String s) {
        return text(s).due("rule()", 0);
    }

    /** A DAY is lived, of which so many ACTS are done. */
    Run live(String s, int done) {
        return text(s).due("day()", done);
    }

    Run due(String call, long want) {
        asked++;
        String got = answer(call);
        if (!got.equals(String.valueOf(want))) {
            blame(call, got, String.valueOf(want));
        }
        return this;
    }

    Run none(String call) {
        asked++;
        String got = answer(call);
        if (!got.equals("throws")) {
            blame(call, got, "NoSuchElementException");
        }
        return this;
    }

    /** The whole ROW. */
    Run row(long... want) {
        due("count(11)", want.length);
        for (int i = 0; i < want.length; i++) {
            due("row(" + i + ")", want[i]);
        }
        return none("row(" + want.length + ")").none("row(-1)");
    }

    /** The call answers so and nothing at all is seen of it afterwards. */
    Run still(String call, long want) {
        String before = state(calls, true);
        due(call, want);
        return same(call, before, true);
    }

    /** Likewise, of a call that throws. */
    Run stillNone(String call) {
        String before = state(calls, true);
        none(call);
        return same(call, before, true);
    }

    /** The call answers so and nothing but the ROW is another. */
    Run question(String call, long want) {
        String before = state(calls, false);
        due(call, want);
        return same(call, before, false);
    }

    /** The call is not refused, and nothing but the ROW is another. */
    Run asks(String call) {
        asked++;
        String before = state(calls, false);
        String got = answer(call);
        if (got.equals("-1") || got.startsWith("throws")) {
            blame(call, got, "not refused");
        }
        return same(call, before, false);
    }

    /** Each of these questions answers as on a new object behind the same calls, whatever was asked ahead of it. */
    Run asksAll(String... questions) {
        List<String> ahead = new ArrayList<>(calls);
        for (String call : questions) {
            asked++;
            Look alone = new Look(ahead);
            alone.asks(call, "count(11)", "row(0)", "row(1)", "row(2)", "row(3)", "row(6)");
            StringBuilder got = new StringBuilder();
            for (String look : new String[] {call, "count(11)", "row(0)", "row(1)", "row(2)", "row(3)", "row(6)"}) {
                got.append(answer(look)).append(' ');
            }
            // An answer below 0 leaves the ROW of the question ahead of it.
            boolean rowStays = got.charAt(0) == '-';
            String due = alone.seen();
            if (!(rowStays ? got.substring(0, 3).equals(due.substring(0, 3)) : got.toString().equals(due))) {
                blame(call + " among others", got.toString(), due);
            }
        }
        return this;
    }

    /** The call reads THE TEXT and answers so; nothing but that THE TEXT is empty then is seen of it. */
    Run emptied(String call, long want) {
        List<String> withoutText = new ArrayList<>(calls);
        withoutText.add("end(0)");
        String before = state(withoutText, true);
        due(call, want);
        return same(call, before, true);
    }

    /** The call reads THE TEXT and answers so; nothing but THE TEXT, which is empty then, and the ROW is another. */
    Run read(String call, long want) {
        List<String> withoutText = new ArrayList<>(calls);
        withoutText.add("end(0)");
        String before = state(withoutText, false);
        due(call, want);
        return same(call, before, false);
    }

    /** The call answers so; behind undo(), which tells how many are left, nothing but THE TEXT and the ROW is another. */
    Run undone(String call, long want, int left) {
        List<String> withoutText = new ArrayList<>(calls);
        withoutText.add("end(0)");
        String before = state(withoutText, false);
        due(call, want).due("count(10)", left + 1).due("undo()", left);
        answer("end(0)");
        return same(call + ", undo()", before, false);
    }

    /** Nothing is seen of all calls so far. */
    Run asNew() {
        return same("all of it", state(new ArrayList<>(), true), true);
    }

    private Run same(String call, String before, boolean withRow) {
        String after = state(calls, withRow);
        if (!after.equals(before)) {
            blame("state behind " + call, after, before);
        }
        return this;
    }

    /** All that can be seen behind a run of calls: each look is taken on a new object, as some looks change it. */
    private String state(List<String> run, boolean withRow) {
        Look look = new Look(run);
        look.all(withRow);
        look.asks("later(99)", "order(99)", "fits()", "laws()");
        for (int i = 0; i <= 12; i++) {
            look.asks("undo()", "count(1)", "count(2)", "count(3)", "count(4)", "count(5)", "count(6)", "count(7)",
                "count(13)");
        }
        StringBuilder s = new StringBuilder(look.seen());
        String[] looks = {"again(0)", "again(1)", "climbers()", "rule()", "day()"};
        for (String call : looks) {
            Look other = new Look(run);
            other.asks(call);
            other.all(withRow);
            s.append(" / ").append(other.seen());
        }
        return s.toString();
    }

    /** What is seen on an object behind a run of calls. */
    private final class Look {
        private final LastDownOwns seen = new LastDownOwns();
        private final StringBuilder s = new StringBuilder();
        private int many;

        Look(List<String> run) {
            for (String call : run) {
                ask(call);
            }
        }

        private String ask(String call) {
            many++;
            return answerTo(seen, call);
        }

        void asks(String... all) {
            for (String call : all) {
                s.append(ask(call)).append(' ');
            }
        }

        void all(boolean withRow) {
            for (int what = 0; what < 16; what++) {
                if (withRow || what != 11) {
                    asks("count(" + what + ")");
                }
            }
            for (int i = 0; i < 7; i++) {
                for (int what = 0; what < 6; what++) {
                    asks("climber(" + i + ", " + what + ")");
                }
            }
            for (int i = 0; withRow && i < 13; i++) {
                asks("row(" + i + ")");
            }
        }

        String seen() {
            if (many > MOST_CALLS) {
                blame("a look", many + " calls", "512 at most");
            }
            return s.toString();
        }
    }

    private String answer(String call) {
        used++;
        if (used == MOST_CALLS + 1) {
            blame(call, "more than 512 calls", "512 at most");
        }
        if (!call.startsWith("count") && !call.startsWith("row(") && !call.startsWith("climber(")) {
            calls.add(call);
        }
        return answerTo(x, call);
    }

    private static String answerTo(LastDownOwns on, String call) {
        try {
            return answerOf(on, call);
        } catch (NoSuchElementException e) {
            return "throws";
        }
    }

    /** Calls x by a call written as a text; a boolean counts 1 or 0. */
    static String answerOf(Object x, String call) {
        int open = call.indexOf('(');
        String inside = call.substring(open + 1, call.length() - 1).trim();
        String[] parts = inside.isEmpty() ? new String[0] : inside.split(",");
        Object[] args = new Object[parts.length];
        for (int i = 0; i < parts.length; i++) {
            args[i] = Integer.parseInt(parts[i].trim());
        }
        try {
            Object got = method(x, call.substring(0, open), parts.length).invoke(x, args);
            return got instanceof Boolean b ? (b ? "1" : "0") : String.valueOf(got);
        } catch (InvocationTargetException e) {
            if (e.getCause() instanceof NoSuchElementException n && n.getClass() == NoSuchElementException.class) {
                throw n;
            }
            return "throws " + e.getCause();
        } catch (ReflectiveOperationException e) {
            return "no such call: " + e;
        }
    }

    private static Method method(Object x, String called, int numbers) throws NoSuchMethodException {
        String key = x.getClass().getName() + " " + called + " " + numbers;
        Method m = METHODS.get(key);
        if (m == null) {
            Class<?>[] types = new Class<?>[numbers];
            Arrays.fill(types, int.class);
            m = x.getClass().getDeclaredMethod(called, types);
            m.setAccessible(true);
            METHODS.put(key, m);
        }
        return m;
    }

    private void blame(String call, String got, String want) {
        wrong++;
        System.out.println(name + ": " + call + " answered " + got + ", due is " + want);
    }

    static void finish() {
        System.out.println(asked + " answers, " + wrong + " not as due");
        if (wrong != 0 || asked == 0) {
            System.exit(1);
        }
    }
}
