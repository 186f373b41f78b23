import java.util.ArrayDeque;
import java.util.ArrayList;
import java.util.Arrays;
import java.util.Deque;
import java.util.List;
import java.util.NoSuchElementException;
import java.util.function.IntPredicate;
import java.util.function.Predicate;

/** The document once more, written in the slowest and plainest way with the Java library: RandomRunsTest compares. */
final class Oracle {
    static final class One implements Cloneable {
        int pace, height, way, wait, built;

        One copy() {
            One o = new One();
            o.pace = pace;
            o.height = height;
            o.way = way;
            o.wait = wait;
            o.built = built;
            return o;
        }
    }

    interface Expression {
        int of(World w, int who);
    }

    static final class Wrong extends Exception {
        final int at;

        Wrong(int at) {
            super("", null, false, false);
            this.at = at;
        }
    }

    /** Recursive descent; the sign that is looked at and fits nothing is the wrong one. */
    static final class Parser {
        final String s;
        int p = 0;

        Parser(String s) {
            this.s = s;
        }

        static Expression rule(String text) throws Wrong {
            if (text.isEmpty()) {
                return (w, i) -> 1 + w.all.get(i).pace / 4;
            }
            Parser parser = new Parser(text.substring(0, Math.min(40, text.length())));
            Expression e;
            try {
                e = parser.comparison(0);
                if (parser.p < parser.s.length()) {
                    throw new Wrong(parser.p);
                }
            } catch (Wrong w) {
                throw w.at > 39 ? new Wrong(Math.min(40, text.length())) : w;
            }
            if (text.length() > 40) {
                throw new Wrong(40);
            }
            return e;
        }

        char look() {
            return p < s.length() ? s.charAt(p) : (char) 0x1000;
        }

        Expression comparison(int depth) throws Wrong {
            Expression a = sum(depth);
            char c = look();
            if (c != '<' && c != '>' && c != '=') {
                return a;
            }
            p++;
            Expression b = sum(depth);
            return (w, i) -> {
                int d = Integer.compare(a.of(w, i), b.of(w, i));
                return (c == '<' ? d < 0 : c == '>' ? d > 0 : d == 0) ? 1 : 0;
            };
        }

        Expression sum(int depth) throws Wrong {
            Expression a = product(depth);
            while (look() == '+' || look() == '-') {
                int f = s.charAt(p++) == '+' ? 1 : -1;
                Expression x = a;
                Expression y = product(depth);
                a = (w, i) -> (int) (x.of(w, i) + (long) f * y.of(w, i));
            }
            return a;
        }

        Expression product(int depth) throws Wrong {
            Expression a = signed(depth);
            while (look() == '*' || look() == '/') {
                boolean times = s.charAt(p++) == '*';
                Expression x = a;
                Expression y = signed(depth);
                a = (w, i) -> {
                    long l = x.of(w, i);
                    long r = y.of(w, i);
                    return times ? (int) (l * r) : r == 0 ? 0 : (int) (l / r);
                };
            }
            return a;
        }

        Expression signed(int depth) throws Wrong {
            if (look() == '-') {
                p++;
                Expression x = signed(depth);
                return (w, i) -> (int) -(long) x.of(w, i);
            }
            if (look() == '(') {
                if (depth == 4) {
                    throw new Wrong(p);
                }
                p++;
                Expression x = comparison(depth + 1);
                if (look() != ')') {
                    throw new Wrong(p);
                }
                p++;
                return x;
            }
            if (look() >= '0' && look() <= '9') {
                int from = p;
                while (look() >= '0' && look() <= '9' && p < from + 3) {
                    p++;
                }
                int v = Integer.parseInt(s.substring(from, p));
                return (w, i) -> v;
            }
            char c = look();
            if ("phuokbn".indexOf(c) < 0) {
                throw new Wrong(p);
            }
            p++;
            return (w, i) -> w.letter(c, i);
        }
    }

    static final class World {
        final List<One> all = new ArrayList<>();
        int top = 5;
        int owner = 7;
        int hour = 0;
        int downs = 0;
        final List<Integer> came = new ArrayList<>();
        int[] gone = new int[7];

        World copy() {
            World w = new World();
            for (One o : all) {
                w.all.add(o.copy());
            }
            w.top = top;
            w.owner = owner;
            w.hour = hour;
            w.downs = downs;
            return w;
        }

        int letter(char c, int who) {
            One me = all.get(who);
            int k = 0;
            int b = 0;
            for (One o : all) {
                if (o != me && o.way != 0 && o.height == me.height) {
                    k++;
                }
                if (o != me && o.way == 2 && o.height < me.height) {
                    b++;
                }
            }
            return switch (c) {
                case 'p' -> me.pace;
                case 'h' -> me.height;
                case 'u' -> me.way == 1 ? 1 : 0;
                case 'o' -> owner == who ? 1 : 0;
                case 'k' -> k;
                case 'b' -> b;
                default -> hour % 7;
            };
        }

        int steps(Expression rule, int who) {
            return Math.max(0, Math.min(3, rule.of(this, who)));
        }

        World hour(Expression rule) {
            World before = copy();
            for (int i = 0; i < all.size(); i++) {
                One o = all.get(i);
                if (o.wait > 0) {
                    o.wait--;
                    continue;
                }
                int s = before.steps(rule, i);
                if (o.way == 1) {
                    o.height = Math.min(top, o.height + s);
                }
                if (o.way == 2) {
                    o.height = Math.max(0, o.height - s);
                }
            }
            for (One o : all) {
                if (o.height == top && o.way == 1) {
                    o.way = 2;
                }
            }
            for (int i = 0; i < all.size(); i++) {
                One o = all.get(i);
                gone[i] += Math.abs(o.height - before.all.get(i).height);
                if (o.height == 0 && o.way == 2) {
                    o.way = 0;
                    owner = i;
                    downs = Math.min(9999, downs + 1);
                    came.add(i);
                }
            }
            if (owner != 7) {
                all.get(owner).built = Math.min(999, all.get(owner).built + 1);
            }
            hour++;
            return this;
        }

        World hours(Expression rule, int n) {
            for (int i = 0; i < n; i++) {
                hour(rule);
            }
            return this;
        }

        int onWay() {
            int n = 0;
            for (One o : all) {
                n += o.way != 0 ? 1 : 0;
            }
            return n;
        }

        int top(int v) {
            if (v < 2 || v > 9) {
                return -1;
            }
            if (v == top) {
                return -2;
            }
            for (One o : all) {
                if (o.height > v) {
                    return -3;
                }
            }
            int was = top;
            top = v;
            return 10 + was;
        }

        boolean has(int i) {
            return i >= 0 && i < all.size();
        }

        int starts(int i) {
            if (!has(i)) {
                return -1;
            }
            if (all.get(i).way != 0) {
                return -2;
            }
            all.get(i).way = 1;
            return onWay();
        }

        int backs(int i) {
            if (!has(i)) {
                return -1;
            }
            if (all.get(i).way == 0) {
                return -2;
            }
            all.get(i).way = 3 - all.get(i).way;
            return all.get(i).way;
        }

        int waits(int i, int n) {
            if (!has(i) || n < 1 || n > 9) {
                return -1;
            }
            all.get(i).wait = Math.min(99, all.get(i).wait + n);
            return all.get(i).wait;
        }

        int slips(int i, int n) {
            if (!has(i) || n < 1 || n > 9) {
                return -1;
            }
            if (all.get(i).way == 0) {
                return -2;
            }
            all.get(i).height = Math.max(0, all.get(i).height - n);
            all.get(i).way = 2;
            return all.get(i).height;
        }
    }

    private World now = new World();
    private String text = "";
    private Expression rule;
    private List<Long> row = new ArrayList<>();
    private final Deque<World> past = new ArrayDeque<>();
    private final World[] kept = new World[2];
    private final List<int[]> heard = new ArrayList<>();
    private final List<int[]> seen = new ArrayList<>();

    Oracle() {
        try {
            rule = Parser.rule("");
        } catch (Wrong w) {
            throw new IllegalStateException();
        }
    }

    private void tell(long... numbers) {
        row = new ArrayList<>();
        for (long n : numbers) {
            row.add(n);
        }
    }

    private String take() {
        String t = text;
        text = "";
        return t;
    }

    int sign(int v) {
        if (text.length() > 76) {
            return -1;
        }
        text += "" + (char) (v >> 24 & 255) + (char) (v >> 16 & 255) + (char) (v >> 8 & 255) + (char) (v & 255);
        return text.length();
    }

    boolean end(int n) {
        if (n < 0 || n > text.length()) {
            return false;
        }
        text = text.substring(0, n);
        return true;
    }

    int climbers() {
        String t = take();
        if (t.isEmpty()) {
            return 0;
        }
        int lines = 0;
        for (int p = 0; p <= t.length(); p++) {
            boolean atEnd = p == t.length();
            if (p == 13 && !atEnd) {
                return -14;
            }
            if (p % 2 == 0) {
                if (atEnd || !Character.isDigit(t.charAt(p)) || now.all.size() + lines == 7) {
                    return -1 - p;
                }
                lines++;
            } else if (!atEnd && t.charAt(p) != ';') {
                return -1 - p;
            } else if (atEnd) {
                break;
            }
        }
        for (String pace : t.split(";")) {
            One o = new One();
            o.pace = Integer.parseInt(pace);
            now.all.add(o);
        }
        past.clear();
        Arrays.fill(kept, null);
        return lines;
    }

    int rule() {
        try {
            rule = Parser.rule(take());
            return 0;
        } catch (Wrong w) {
            return -1 - w.at;
        }
    }

    private int done(World before, int answer) {
        if (answer >= 0) {
            past.addLast(before);
            if (past.size() > 12) {
                past.removeFirst();
            }
        }
        return answer;
    }

    int top(int v) {
        World before = now.copy();
        return done(before, now.top(v));
    }

    int climber(int i, int what) {
        if (!now.has(i) || what < 0 || what > 5) {
            throw new NoSuchElementException();
        }
        One o = now.all.get(i);
        return new int[] {o.pace, o.height, o.way, o.wait, o.built, now.steps(rule, i)}[what];
    }

    int sheet(int kind, int n, int f, int step) {
        if (kind < 0 || kind > 3 || n > 7) {
            return -1;
        }
        if (kind < 3 && n < 0) {
            return -2;
        }
        int sum = 0;
        int entry = f;
        for (int i = 0; i < now.all.size(); i++) {
            int v = kind == 0 ? (byte) entry : kind == 1 ? (short) entry : entry;
            now.all.get(i).pace = kind == 3 || i >= n ? 0 : Math.max(0, Math.min(9, v));
            sum += now.all.get(i).pace;
            entry += step;
        }
        return kind == 3 ? -3 : sum;
    }

    int hours(int n) {
        if (n < 0 || n > 60) {
            return -1;
        }
        World before = now.copy();
        now.came.clear();
        now.hours(rule, n);
        tell(now.came.size(), now.onWay());
        if (n > 0) {
            done(before, 0);
        }
        return now.owner;
    }

    int starts(int i) {
        World before = now.copy();
        return done(before, now.starts(i));
    }

    int backs(int i) {
        World before = now.copy();
        return done(before, now.backs(i));
    }

    int waits(int i, int n) {
        World before = now.copy();
        return done(before, now.waits(i, n));
    }

    int slips(int i, int n) {
        World before = now.copy();
        return done(before, now.slips(i, n));
    }

    int day() {
        String t = take();
        List<String> acts = new ArrayList<>();
        String act = "";
        for (int p = 0; p < t.length(); p++) {
            if (p == 60) {
                return -61;
            }
            act += t.charAt(p);
            if (!act.matches("[nsbt][0-9]?|[wf]([0-9][1-9]?)?")) {
                return -1 - p;
            }
            if (act.matches("[nsbt].|[wf]..")) {
                acts.add(act);
                act = "";
            }
        }
        if (!act.isEmpty()) {
            return -1 - t.length();
        }
        World before = now.copy();
        int n = 0;
        int stopped = 0;
        for (String a : acts) {
            int d = a.charAt(1) - '0';
            int e = a.length() > 2 ? a.charAt(2) - '0' : 0;
            int answer = switch (a.charAt(0)) {
                case 'n' -> now.hours(rule, d).owner;
                case 's' -> now.starts(d);
                case 'b' -> now.backs(d);
                case 'w' -> now.waits(d, e);
                case 'f' -> now.slips(d, e);
                default -> now.top(d);
            };
            if (answer < 0) {
                stopped = 1;
                break;
            }
            n++;
        }
        if (n > 0) {
            done(before, 0);
        }
        tell(stopped, now.hour);
        return n;
    }

    private void restore(World w) {
        World back = w.copy();
        for (int i = 0; i < back.all.size(); i++) {
            back.all.get(i).pace = now.all.get(i).pace;
        }
        now = back;
    }

    int undo() {
        if (past.isEmpty()) {
            return -1;
        }
        restore(past.removeLast());
        return past.size();
    }

    /** The worlds behind 0, 1, .. n HOURS. */
    private List<World> film(World from, int n) {
        List<World> worlds = new ArrayList<>();
        worlds.add(from.copy());
        for (int i = 0; i < n; i++) {
            World last = worlds.get(worlds.size() - 1);
            World next = last.copy();
            worlds.add(next.hour(rule));
        }
        return worlds;
    }

    private boolean bad(int n, int least, int most) {
        return n < least || n > most;
    }

    int later(int n) {
        if (bad(n, 0, 99)) {
            return -1;
        }
        World w = now.copy().hours(rule, n);
        tell(w.came.size(), w.onWay());
        return w.owner;
    }

    private int firstAndOften(int n, IntPredicate is, int from) {
        int first = -2;
        int often = 0;
        for (int i = from; i <= n; i++) {
            if (is.test(i)) {
                first = often++ == 0 ? i : first;
            }
        }
        if (often > 0) {
            tell(often);
        }
        return first;
    }

    int when(int i) {
        if (!now.has(i)) {
            return -1;
        }
        List<World> film = film(now, 99);
        return firstAndOften(99, t -> film.get(t).owner == i, 0);
    }

    private int owned(World from, int who, int n) {
        List<World> film = film(from, n);
        int owned = 0;
        for (int t = 1; t <= n; t++) {
            owned += film.get(t).owner == who ? 1 : 0;
        }
        return owned;
    }

    int shares(int n) {
        if (bad(n, 1, 99)) {
            return -1;
        }
        long[] each = new long[now.all.size()];
        for (int i = 0; i < each.length; i++) {
            each[i] = owned(now, i, n);
        }
        tell(each);
        return owned(now, 7, n);
    }

    int order(int n) {
        if (bad(n, 1, 99)) {
            return -1;
        }
        World w = now.copy().hours(rule, n);
        tell(w.came.stream().limit(12).mapToLong(i -> i).toArray());
        return w.came.size();
    }

    int empty() {
        List<World> film = film(now, 99);
        for (int t = 0; t <= 99; t++) {
            if (film.get(t).onWay() == 0) {
                tell(film.get(t).owner);
                return t;
            }
        }
        return -2;
    }

    int high(int i, int n) {
        if (!now.has(i) || bad(n, 0, 99)) {
            return -1;
        }
        One o = now.copy().hours(rule, n).all.get(i);
        tell(o.way, o.built);
        return o.height;
    }

    int comes(int i) {
        if (!now.has(i)) {
            return -1;
        }
        List<World> film = film(now, 99);
        return firstAndOften(99, t -> film.get(t).came.contains(i), 1);
    }

    int crowd(int n) {
        if (bad(n, 0, 99)) {
            return -1;
        }
        int most = 0;
        tell();
        List<World> film = film(now, n);
        for (int t = 0; t <= n; t++) {
            for (int h = 0; h <= 9; h++) {
                int many = 0;
                for (One o : film.get(t).all) {
                    many += o.way != 0 && o.height == h ? 1 : 0;
                }
                if (many > most) {
                    most = many;
                    tell(h, t);
                }
            }
        }
        return most;
    }

    int changes(int n) {
        if (bad(n, 1, 99)) {
            return -1;
        }
        List<World> film = film(now, n);
        int often = 0;
        int longest = 0;
        int whose = 7;
        for (int t = 1; t <= n; t++) {
            often += film.get(t).owner != film.get(t - 1).owner ? 1 : 0;
            int end = t;
            while (end <= n && film.get(end).owner == film.get(t).owner) {
                end++;
            }
            if (film.get(t).owner != 7 && end - t > longest) {
                longest = end - t;
                whose = film.get(t).owner;
            }
        }
        tell(longest, whose);
        return often;
    }

    int ways(int n) {
        if (bad(n, 1, 99)) {
            return -1;
        }
        World w = now.copy().hours(rule, n);
        tell(Arrays.stream(w.gone).limit(w.all.size()).mapToLong(i -> i).toArray());
        return Arrays.stream(w.gone).sum();
    }

    int peaks(int i, int n) {
        if (!now.has(i) || bad(n, 1, 60)) {
            return -1;
        }
        int best = 0;
        int most = -1;
        for (int v = 2; v <= 9; v++) {
            World w = now.copy();
            if (w.top(v) == -3) {
                continue;
            }
            int owned = owned(w, i, n);
            if (owned > most) {
                most = owned;
                best = v;
            }
        }
        tell(most, owned(now, i, n));
        return best;
    }

    int bides(int i, int n) {
        if (!now.has(i) || bad(n, 0, 60)) {
            return -1;
        }
        return firstAndOften(30, m -> {
            World w = now.copy();
            w.all.get(i).wait += m;
            return w.hours(rule, n).owner == i;
        }, 0);
    }

    private int fewest(int candidates, Predicate<Integer> good) {
        for (int many = 0; many <= 10; many++) {
            for (int set = 0; set < 1024; set++) {
                if ((set & candidates) == set && Integer.bitCount(set) == many && good.test(set)) {
                    tell(set);
                    return many;
                }
            }
        }
        return -2;
    }

    private int bits(Predicate<One> is) {
        int bits = 0;
        for (int i = 0; i < now.all.size(); i++) {
            bits |= is.test(now.all.get(i)) ? 1 << i : 0;
        }
        return bits;
    }

    int rivals(int i, int n) {
        if (!now.has(i) || bad(n, 0, 60)) {
            return -1;
        }
        return fewest(bits(o -> o.way != 0) & ~(1 << i), set -> {
            World w = now.copy();
            for (int j = 0; j < 7; j++) {
                if ((set >> j & 1) == 1) {
                    w.all.get(j).wait += 99;
                }
            }
            return w.hours(rule, n).owner == i;
        });
    }

    int goes(int n) {
        if (bad(n, 1, 60)) {
            return -1;
        }
        int best = -2;
        int most = -1;
        for (int i = 0; i < now.all.size(); i++) {
            World w = now.copy();
            if (w.starts(i) > 0 && owned(w, i, n) > most) {
                most = owned(w, i, n);
                best = i;
            }
        }
        if (best >= 0) {
            tell(most);
        }
        return best;
    }

    int ousts(int i, int n) {
        if (!now.has(i) || bad(n, 0, 60)) {
            return -1;
        }
        return fewest(bits(o -> o.way == 0), set -> {
            World w = now.copy();
            for (int j = 0; j < 7; j++) {
                if ((set >> j & 1) == 1) {
                    w.starts(j);
                }
            }
            return w.hours(rule, n).owner != i;
        });
    }

    int lawyers(int v) {
        if (bad(v, 0, 9)) {
            return -1;
        }
        return fewest((1 << now.top + 1) - 1, set -> {
            for (One o : now.all) {
                boolean near = false;
                for (int h = 0; h <= 9; h++) {
                    near |= (set >> h & 1) == 1 && Math.abs(h - o.height) <= v;
                }
                if (!near) {
                    return false;
                }
            }
            return true;
        });
    }

    int rope() {
        List<Integer> best = new ArrayList<>();
        for (int set = 0; set < 1 << now.all.size(); set++) {
            List<Integer> list = new ArrayList<>();
            boolean rises = true;
            for (int i = 0; i < 7; i++) {
                if ((set >> i & 1) == 1) {
                    rises &= list.isEmpty() || now.all.get(i).height > now.all.get(list.get(list.size() - 1)).height;
                    list.add(i);
                }
            }
            if (rises && (list.size() > best.size()
                || list.size() == best.size() && list.toString().compareTo(best.toString()) < 0)) {
                best = list;
            }
        }
        tell(best.stream().mapToLong(i -> i).toArray());
        return best.size();
    }

    int line() {
        List<Integer> list = new ArrayList<>();
        for (int i = 0; i < now.all.size(); i++) {
            list.add(i);
        }
        list.sort((a, b) -> now.all.get(b).height - now.all.get(a).height);
        tell(list.stream().mapToLong(i -> i).toArray());
        return list.size();
    }

    int nearest() {
        for (int d = 0; d <= 9; d++) {
            for (int i = 0; i < now.all.size(); i++) {
                for (int j = i + 1; j < now.all.size(); j++) {
                    if (Math.abs(now.all.get(i).height - now.all.get(j).height) == d) {
                        tell(i, j);
                        return d;
                    }
                }
            }
        }
        return -2;
    }

    private int sum(int set, java.util.function.ToIntFunction<One> of) {
        int sum = 0;
        for (int i = 0; i < now.all.size(); i++) {
            sum += (set >> i & 1) * of.applyAsInt(now.all.get(i));
        }
        return sum;
    }

    int stones(int v) {
        if (bad(v, 0, 999)) {
            return -1;
        }
        int all = (1 << now.all.size()) - 1;
        int often = 0;
        for (int set = 0; set <= all; set++) {
            often += sum(set, o -> o.built) == v ? 1 : 0;
        }
        int fewest = fewest(all, set -> sum(set, o -> o.built) == v);
        if (fewest >= 0) {
            row.add((long) often);
        }
        return fewest;
    }

    int parties() {
        int all = (1 << now.all.size()) - 1;
        for (int d = 0; d <= 63; d++) {
            for (int set = 0; set <= all; set++) {
                int one = sum(set, o -> o.pace);
                if (Math.abs(one - sum(all & ~set, o -> o.pace)) == d) {
                    tell(set, one);
                    return d;
                }
            }
        }
        throw new IllegalStateException();
    }

    int heard(int what, int v) {
        int[] most = {9, 99, 2, 9, 1};
        if (bad(what, 0, 4) || bad(v, 0, most[what]) || heard.size() == 12) {
            return -1;
        }
        heard.add(new int[] {what, v});
        return heard.size();
    }

    int forget() {
        int n = heard.size();
        heard.clear();
        return n;
    }

    private boolean is(One o, int what, int v) {
        return switch (what) {
            case 0 -> o.pace >= v;
            case 1 -> o.built >= v;
            case 2 -> o.way == v;
            case 3 -> o.height >= v;
            default -> (o.wait > 0 ? 1 : 0) == v;
        };
    }

    private int fitting() {
        return bits(o -> heard.stream().allMatch(h -> is(o, h[0], h[1])));
    }

    int fits() {
        tell(Integer.bitCount(fitting()));
        return fitting();
    }

    int asks() {
        int fit = fitting();
        if (fit == 0) {
            return -2;
        }
        int best = -2;
        int least = 99;
        for (int code = 0; code < 50; code++) {
            int what = code / 10;
            int v = code % 10;
            if (what == 1 || v > new int[] {9, 0, 2, 9, 1}[what]) {
                continue;
            }
            int so = fit & bits(o -> is(o, what, v));
            int left = Math.max(Integer.bitCount(so), Integer.bitCount(fit & ~so));
            if (left < least) {
                least = left;
                best = code;
            }
        }
        tell(least);
        return best;
    }

    int saw(int p, int s) {
        if (bad(p, 0, 9) || bad(s, 0, 3) || seen.size() == 10) {
            return -1;
        }
        seen.add(new int[] {p, s});
        return seen.size();
    }

    int denies() {
        int n = seen.size();
        seen.clear();
        return n;
    }

    private int goesBy(int[] law, int p) {
        return Math.min(law[2], law[0] + p / law[1]);
    }

    private List<int[]> fittingLaws() {
        List<int[]> list = new ArrayList<>();
        for (int a = 0; a <= 3; a++) {
            for (int b = 1; b <= 5; b++) {
                for (int c = 0; c <= 3; c++) {
                    int[] law = {a, b, c};
                    if (seen.stream().allMatch(s -> goesBy(law, s[0]) == s[1])) {
                        list.add(law);
                    }
                }
            }
        }
        return list;
    }

    int laws() {
        List<int[]> list = fittingLaws();
        tell(list.isEmpty() ? new long[0] : Arrays.stream(list.get(0)).mapToLong(i -> i).toArray());
        return list.size();
    }

    int looks() {
        List<int[]> list = fittingLaws();
        int best = -2;
        long least = 99;
        for (int p = 0; p <= 9 && !list.isEmpty(); p++) {
            long left = 0;
            for (int s = 0; s <= 3; s++) {
                int pace = p;
                int steps = s;
                left = Math.max(left, list.stream().filter(l -> goesBy(l, pace) == steps).count());
            }
            if (left < least) {
                least = left;
                best = p;
            }
        }
        if (best >= 0) {
            tell(least);
        }
        return best;
    }

    /** By elimination over the chances of all HEIGHTS: x(h) = down x(h-1) + up x(h+1), times 10. */
    int strays(int h, int p) {
        if (bad(h, 0, now.top) || bad(p, 0, 10)) {
            return -1;
        }
        java.math.BigInteger ten = java.math.BigInteger.TEN;
        java.math.BigInteger up = java.math.BigInteger.valueOf(10 - p);
        java.math.BigInteger down = java.math.BigInteger.valueOf(p);
        // x(h) = (r(h) + s(h) x(h+1)) / t(h), from x(0) = 1 on.
        java.math.BigInteger[] r = new java.math.BigInteger[10];
        java.math.BigInteger[] s = new java.math.BigInteger[10];
        java.math.BigInteger[] t = new java.math.BigInteger[10];
        r[0] = java.math.BigInteger.ONE;
        s[0] = java.math.BigInteger.ZERO;
        t[0] = java.math.BigInteger.ONE;
        for (int i = 1; i < now.top; i++) {
            r[i] = down.multiply(r[i - 1]);
            s[i] = up.multiply(t[i - 1]);
            t[i] = ten.multiply(t[i - 1]).subtract(down.multiply(s[i - 1]));
        }
        java.math.BigInteger upper = java.math.BigInteger.ZERO;
        java.math.BigInteger lower = java.math.BigInteger.ONE;
        for (int i = now.top - 1; i >= h; i--) {
            upper = r[i].multiply(lower).add(s[i].multiply(upper));
            lower = t[i].multiply(lower);
            java.math.BigInteger g = upper.gcd(lower);
            upper = upper.divide(g);
            lower = lower.divide(g);
        }
        tell(upper.longValueExact(), lower.longValueExact());
        return 0;
    }

    private final java.util.Map<String, Boolean> bends = new java.util.HashMap<>();

    private boolean wins(int x, int y, boolean two) {
        String key = x + " " + y + " " + two;
        Boolean known = bends.get(key);
        if (known == null) {
            known = two && !wins(y, x, false) || goWins(x, y, 1) || goWins(x, y, 2);
            bends.put(key, known);
        }
        return known;
    }

    private boolean goWins(int x, int y, int go) {
        return x > go && !wins(y, x - go, go == 2);
    }

    int bend(int a, int b) {
        if (bad(a, 1, 20) || bad(b, 1, 20)) {
            return -1;
        }
        tell();
        if (goWins(a, b, 1) || goWins(a, b, 2)) {
            tell(goWins(a, b, 1) ? 1 : 2);
            return 1;
        }
        return 0;
    }

    private int worth(int x, int y, int v) {
        int costs = 0;
        for (int i = 1; i <= x; i++) {
            costs += i >= 5 ? 2 : 1;
        }
        return (x + y) / 2 + (x > y ? v : 0) - costs;
    }

    int rests(int v) {
        if (bad(v, 0, 20)) {
            return -1;
        }
        int many = 0;
        tell();
        for (int x = 0; x <= 9; x++) {
            for (int y = 0; y <= 9; y++) {
                boolean rests = true;
                for (int z = 0; z <= 9; z++) {
                    rests &= worth(z, y, v) <= worth(x, y, v) && worth(z, x, v) <= worth(y, x, v);
                }
                if (rests && many++ == 0) {
                    tell(x, y);
                }
            }
        }
        return many;
    }

    int law() {
        try {
            Expression other = Parser.rule(take());
            World by = now.copy().hours(other, 20);
            World plain = now.copy().hours(rule, 20);
            tell(by.came.size(), plain.came.size(), by.owner, plain.owner);
            return by.came.size() - plain.came.size();
        } catch (Wrong w) {
            return -10000 - w.at;
        }
    }

    private long drawn;

    private int draw(int n) {
        drawn = drawn * 1103515245L + 12345L & 0xFFFFFFFFL;
        return (int) (drawn / 65536 % n);
    }

    int years(int seed, int n) {
        if (bad(n, 1, 60)) {
            return -1;
        }
        World w = now.copy();
        drawn = seed & 0xFFFFFFFFL;
        for (int i = 0; i < n; i++) {
            int what = draw(4);
            if (what < 2) {
                w.hour(rule);
            } else if (!w.all.isEmpty()) {
                int who = draw(w.all.size());
                if (what == 2) {
                    w.starts(who);
                } else {
                    w.slips(who, 1 + draw(3));
                }
            }
        }
        tell(w.came.size(), w.onWay());
        return w.owner;
    }

    boolean keep(int i) {
        if (bad(i, 0, 1)) {
            return false;
        }
        kept[i] = now.copy();
        return true;
    }

    boolean again(int i) {
        if (bad(i, 0, 1) || kept[i] == null) {
            return false;
        }
        restore(kept[i]);
        past.clear();
        return true;
    }

    int count(int what) {
        int all = (1 << now.all.size()) - 1;
        return switch (what) {
            case 0 -> now.all.size();
            case 1 -> now.top;
            case 2 -> now.owner;
            case 3 -> now.hour;
            case 4 -> now.downs;
            case 5 -> bits(o -> o.way != 0);
            case 6 -> sum(all, o -> o.height);
            case 7 -> sum(all, o -> o.built);
            case 8 -> heard.size();
            case 9 -> seen.size();
            case 10 -> past.size();
            case 11 -> row.size();
            case 12 -> text.length();
            case 13 -> sum(all, o -> o.wait);
            case 14 -> sum(all, o -> o.pace);
            case 15 -> bits(o -> o.wait > 0);
            default -> -1;
        };
    }

    long row(int i) {
        if (i < 0 || i >= row.size()) {
            throw new NoSuchElementException();
        }
        return row.get(i);
    }
}
