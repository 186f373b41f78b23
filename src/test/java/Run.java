import java.lang.reflect.InvocationTargetException;
import java.lang.reflect.Method;
import java.util.NoSuchElementException;

/** A run of calls on a new object, each with the answer that is due. Calls are written as texts: "later(4)". */
final class Run {
    private static int wrong = 0;
    private static int asked = 0;
    private final String name;
    private final LastDownOwns x = new LastDownOwns();

    Run(String name) {
        this.name = name;
    }

    /** THE TEXT becomes s. */
    Run text(String s) {
        x.end(0);
        for (int p = 0; p < s.length(); p += 4) {
            int v = 0;
            for (int i = 0; i < 4; i++) {
                v = v << 8 | (p + i < s.length() ? s.charAt(p + i) & 255 : 0);
            }
            x.sign(v);
        }
        if (!x.end(s.length())) {
            blame("text " + s, "false", "true");
        }
        return this;
    }

    Run due(String call, long want) {
        asked++;
        String got = answer(call);
        if (!got.equals(String.valueOf(want))) {
            blame(call, got, String.valueOf(want));
        }
        return this;
    }

    Run none(String call) {
        asked++;
        String got = answer(call);
        if (!got.equals("throws")) {
            blame(call, got, "NoSuchElementException");
        }
        return this;
    }

    /** The whole ROW. */
    Run row(long... want) {
        due("count(11)", want.length);
        for (int i = 0; i < want.length; i++) {
            due("row(" + i + ")", want[i]);
        }
        return none("row(" + want.length + ")").none("row(-1)");
    }

    /** The call answers so and changes nothing that can be seen; the ROW stays. */
    Run still(String call, long want) {
        String before = state(true);
        due(call, want);
        return same(call, before, true);
    }

    /** The call answers so and changes nothing but the ROW. */
    Run question(String call, long want) {
        String before = state(false);
        due(call, want);
        return same(call, before, false);
    }

    /** The call reads THE TEXT, answers so, and changes nothing but that THE TEXT is empty then. */
    Run emptied(String call, long want) {
        x.end(x.count(12));
        String before = state(true);
        due(call, want).due("count(12)", 0);
        return same(call, before, true);
    }

    private Run same(String call, String before, boolean withRow) {
        String after = state(withRow);
        if (!after.equals(before)) {
            blame("state behind " + call, after, before);
        }
        return this;
    }

    private String state(boolean withRow) {
        StringBuilder s = new StringBuilder();
        for (int what = 0; what < 16; what++) {
            if (what != 12 && (withRow || what != 11)) {
                s.append(x.count(what)).append(' ');
            }
        }
        for (int i = 0; i < x.count(0); i++) {
            s.append('|');
            for (int what = 0; what < 6; what++) {
                s.append(x.climber(i, what)).append(' ');
            }
        }
        s.append('#');
        for (int i = 0; withRow && i < x.count(11); i++) {
            s.append(x.row(i)).append(' ');
        }
        return s.toString();
    }

    private String answer(String call) {
        try {
            return answerOf(x, call);
        } catch (NoSuchElementException e) {
            return "throws";
        }
    }

    /** Calls x by a call written as a text; a boolean counts 1 or 0. */
    static String answerOf(Object x, String call) {
        int open = call.indexOf('(');
        String inside = call.substring(open + 1, call.length() - 1).trim();
        String[] parts = inside.isEmpty() ? new String[0] : inside.split(",");
        Object[] args = new Object[parts.length];
        Class<?>[] types = new Class<?>[parts.length];
        for (int i = 0; i < parts.length; i++) {
            args[i] = Integer.parseInt(parts[i].trim());
            types[i] = int.class;
        }
        try {
            Method m = x.getClass().getDeclaredMethod(call.substring(0, open), types);
            m.setAccessible(true);
            Object got = m.invoke(x, args);
            return got instanceof Boolean b ? (b ? "1" : "0") : String.valueOf(got);
        } catch (InvocationTargetException e) {
            if (e.getCause() instanceof NoSuchElementException n && n.getClass() == NoSuchElementException.class) {
                throw n;
            }
            return "throws " + e.getCause();
        } catch (ReflectiveOperationException e) {
            return "no such call: " + e;
        }
    }

    private void blame(String call, String got, String want) {
        wrong++;
        System.out.println(name + ": " + call + " answered " + got + ", due is " + want);
    }

    static void finish() {
        System.out.println(asked + " answers, " + wrong + " not as due");
        if (wrong != 0 || asked == 0) {
            System.exit(1);
        }
    }
}
