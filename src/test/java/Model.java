import java.util.ArrayDeque;
import java.util.ArrayList;
import java.util.List;
import java.util.regex.Matcher;
import java.util.regex.Pattern;

/**
 * The document once more, in its slowest form: what would be is found by letting it happen on a copy,
 * states are kept as whole copies, a text is checked against a regular expression.
 */
final class Model {
    private static final Pattern DAY = Pattern.compile(
            "W(?:1P|2PP|3PPP)(?:c[0-2][0-2]|[gj]Q|xQQ|t[1-9])*"
                    .replace("P", "(?:0[1-9]|1[0-9]|20)").replace("Q", "[0-2][0-9]"));

    static final class One {
        int kind, line, stood, account, house, fate, came, back;
        Integer jumped;
    }

    static final class Counter {
        int pace, worked, served;
        List<Integer> row = new ArrayList<>();
    }

    static final class State {
        List<Counter> lines = new ArrayList<>();
        List<One> people = new ArrayList<>();
        int[] settings = {30, 5, 2, 2};
        int minutes, exchanges, jumps, house;

        State copy() {
            State to = new State();
            for (Counter c : lines) {
                Counter d = new Counter();
                d.pace = c.pace;
                d.worked = c.worked;
                d.served = c.served;
                d.row.addAll(c.row);
                to.lines.add(d);
            }
            for (One a : people) {
                One b = new One();
                b.kind = a.kind;
                b.line = a.line;
                b.stood = a.stood;
                b.account = a.account;
                b.house = a.house;
                b.fate = a.fate;
                b.came = a.came;
                b.back = a.back;
                b.jumped = a.jumped;
                to.people.add(b);
            }
            to.settings = settings.clone();
            to.minutes = minutes;
            to.exchanges = exchanges;
            to.jumps = jumps;
            to.house = house;
            return to;
        }
    }

    private State now = new State();
    private final ArrayDeque<State> before = new ArrayDeque<>();
    private final State[] slots = new State[2];
    private final StringBuilder text = new StringBuilder();

    Model() {
        addCounter(3);
    }

    private void addCounter(int pace) {
        Counter c = new Counter();
        c.pace = pace;
        now.lines.add(c);
    }

    /** A model of the same state, on which things may be tried. */
    private Model trial() {
        Model m = new Model();
        m.now = now.copy();
        return m;
    }

    private void act() {
        before.addLast(now.copy());
        if (before.size() > 14) {
            before.removeFirst();
        }
    }

    private Counter counter(int l) {
        if (l < 0 || l >= now.lines.size()) {
            throw new IndexOutOfBoundsException();
        }
        return now.lines.get(l);
    }

    private One one(int p) {
        if (p < 0 || p >= now.people.size()) {
            throw new IndexOutOfBoundsException();
        }
        return now.people.get(p);
    }

    private static void argument(boolean fine) {
        if (!fine) {
            throw new IllegalArgumentException();
        }
    }

    private static void state(boolean fine) {
        if (!fine) {
            throw new IllegalStateException();
        }
    }

    int append(int c) {
        argument(c >= 0 && c <= 255);
        state(text.length() < 100);
        text.append((char) c);
        return text.length();
    }

    int clearText() {
        int length = text.length();
        text.setLength(0);
        return length;
    }

    int errorPosition() {
        for (int i = 0; i < text.length(); i++) {
            Matcher begun = DAY.matcher(text.substring(0, i + 1));
            if (!begun.matches() && !begun.hitEnd()) {
                return i;
            }
        }
        return DAY.matcher(text).matches() ? -1 : text.length();
    }

    int load() {
        state(errorPosition() == -1);
        now = new State();
        before.clear();
        slots[0] = null;
        slots[1] = null;
        int lines = text.charAt(1) - '0';
        int i = 2;
        for (; i < 2 + 2 * lines; i += 2) {
            addCounter(Integer.parseInt(text.substring(i, i + 2)));
        }
        int leftOut = 0;
        String rest = text.substring(i);
        for (String command : rest.split("(?=[cgxjt])")) {
            if (!command.isEmpty() && !done(command)) {
                leftOut++;
            }
        }
        before.clear();
        return leftOut;
    }

    private boolean done(String command) {
        String digits = command.substring(1);
        try {
            switch (command.charAt(0)) {
                case 'c' -> come(digits.charAt(1) - '0', digits.charAt(0) - '0');
                case 'g' -> go(Integer.parseInt(digits));
                case 'x' -> exchange(Integer.parseInt(digits.substring(0, 2)), Integer.parseInt(digits.substring(2)));
                case 'j' -> jump(Integer.parseInt(digits));
                default -> minutes(Integer.parseInt(digits));
            }
            return true;
        } catch (RuntimeException e) {
            return false;
        }
    }

    int about(int what) {
        argument(what >= 0 && what <= 9);
        int[] fates = new int[3];
        int sum = 0;
        for (One a : now.people) {
            fates[a.fate]++;
            sum += a.account;
        }
        return new int[] {now.minutes, now.lines.size(), now.people.size(), fates[0], fates[1], fates[2],
            now.exchanges, now.jumps, now.house, sum}[what];
    }

    int line(int l, int what) {
        Counter c = counter(l);
        argument(what >= 0 && what <= 4);
        int stood = 0;
        for (int p : c.row) {
            stood += one(p).stood;
        }
        return new int[] {c.pace, c.row.size(), c.worked, c.served, stood}[what];
    }

    int at(int l, int k) {
        Counter c = counter(l);
        argument(k >= 0);
        return k < c.row.size() ? c.row.get(k) : -1;
    }

    private int place(int p) {
        return one(p).fate == 0 ? counter(one(p).line).row.indexOf(p) : -1;
    }

    int person(int p, int what) {
        One a = one(p);
        argument(what >= 0 && what <= 8);
        return new int[] {a.kind, a.fate == 0 ? a.line : -1, place(p), a.stood, a.account, a.house, a.fate,
            a.came, a.back}[what];
    }

    int setting(int what) {
        argument(what >= 0 && what <= 3);
        return now.settings[what];
    }

    int open(int pace) {
        argument(pace >= 1 && pace <= 20);
        state(now.lines.size() < 3);
        act();
        addCounter(pace);
        return now.lines.size() - 1;
    }

    int come(int l, int kind) {
        Counter c = counter(l);
        argument(kind >= 0 && kind <= 2);
        state(now.people.size() < 30 && c.row.size() < 12);
        act();
        One a = new One();
        a.kind = kind;
        a.line = l;
        a.came = now.minutes;
        now.people.add(a);
        c.row.add(now.people.size() - 1);
        return now.people.size() - 1;
    }

    int go(int p) {
        One a = one(p);
        state(a.fate == 0);
        act();
        counter(a.line).row.remove((Integer) p);
        a.fate = 2;
        return a.stood;
    }

    int exchange(int p, int q) {
        One a = one(p);
        One b = one(q);
        state(a.fate == 0 && b.fate == 0 && a.line == b.line && place(q) < place(p));
        int places = place(p) - place(q);
        int cost = places * now.settings[2];
        state(a.account - cost + a.stood >= 0);
        act();
        List<Integer> row = counter(a.line).row;
        int from = place(p);
        int to = place(q);
        row.set(from, q);
        row.set(to, p);
        a.account -= cost;
        b.account += cost;
        a.back -= places;
        b.back += places;
        now.exchanges++;
        return cost;
    }

    int jump(int p) {
        One a = one(p);
        state(a.fate == 0 && a.kind != 0 && place(p) != 0);
        state(a.jumped == null || now.minutes - a.jumped >= 5);
        act();
        List<Integer> row = counter(a.line).row;
        int from = place(p);
        int to = Math.max(0, from - now.settings[3]);
        for (int q : row.subList(to, from)) {
            One b = one(q);
            b.account += now.settings[2];
            b.back++;
            if (a.kind == 1) {
                b.house += now.settings[2];
                now.house += now.settings[2];
            } else {
                a.account -= now.settings[2];
            }
        }
        row.remove(from);
        row.add(to, p);
        a.back -= from - to;
        a.jumped = now.minutes;
        now.jumps++;
        return from - to;
    }

    int merge(int l, int other) {
        Counter c = counter(l);
        Counter d = counter(other);
        argument(l != other);
        state(c.row.size() + d.row.size() <= 12);
        act();
        // act() kept a copy, so the counters here are still the present ones
        c.row.addAll(d.row);
        d.row.clear();
        d.worked = 0;
        c.row.sort((p, q) -> one(p).stood != one(q).stood ? one(q).stood - one(p).stood : p - q);
        for (int p : c.row) {
            one(p).line = l;
        }
        return c.row.size();
    }

    int minutes(int n) {
        argument(n >= 1 && n <= 60);
        act();
        return pass(n);
    }

    private int pass(int n) {
        int served = 0;
        for (int i = 0; i < n; i++) {
            now.minutes++;
            for (One a : now.people) {
                a.stood += a.fate == 0 ? 1 : 0;
            }
            for (Counter c : now.lines) {
                if (!c.row.isEmpty() && ++c.worked >= c.pace) {
                    one(c.row.remove(0)).fate = 1;
                    c.worked = 0;
                    c.served++;
                    served++;
                }
            }
            for (One a : now.people) {
                for (int due = now.settings[0]; due <= a.stood && a.fate == 0; due += 10) {
                    if (due == a.stood) {
                        a.account += now.settings[1];
                        a.house += now.settings[1];
                        now.house += now.settings[1];
                    }
                }
            }
        }
        return served;
    }

    int set(int what, int v) {
        int[][] ranges = {{10, 99}, {0, 50}, {1, 9}, {1, 5}};
        argument(what >= 0 && what <= 3 && v >= ranges[what][0] && v <= ranges[what][1]);
        act();
        int previous = now.settings[what];
        now.settings[what] = v;
        return previous;
    }

    int undo() {
        state(!before.isEmpty());
        now = before.removeLast();
        return before.size();
    }

    int servedIn(int p) {
        state(one(p).fate == 0);
        Model m = trial();
        int n = 0;
        while (m.one(p).fate == 0) {
            m.pass(1);
            n++;
        }
        return n;
    }

    int willPay(int n) {
        argument(n >= 1 && n <= 999);
        Model m = trial();
        m.pass(n);
        return m.now.house - now.house;
    }

    int gain(int p, int q) {
        Model m = trial();
        int paid = m.exchange(p, q);
        return servedIn(p) - m.servedIn(p) - paid;
    }

    int partner(int p) {
        one(p);
        int best = -1;
        int most = Integer.MIN_VALUE;
        for (int q = 0; q < now.people.size(); q++) {
            try {
                int gain = gain(p, q);
                if (gain > most) {
                    most = gain;
                    best = q;
                }
            } catch (IllegalStateException e) {
                // no partner
            }
        }
        return best;
    }

    int bestLine() {
        int best = -1;
        int least = Integer.MAX_VALUE;
        for (int l = 0; l < now.lines.size(); l++) {
            try {
                Model m = trial();
                int wait = m.servedIn(m.come(l, 0));
                if (wait < least) {
                    least = wait;
                    best = l;
                }
            } catch (IllegalStateException e) {
                // nobody can stand there
            }
        }
        return best;
    }

    int longest() {
        int best = -1;
        int most = -1;
        for (int p = 0; p < now.people.size(); p++) {
            if (one(p).fate == 0) {
                Model m = trial();
                m.pass(servedIn(p));
                if (m.one(p).stood > most) {
                    most = m.one(p).stood;
                    best = p;
                }
            }
        }
        return best;
    }

    private int allWaits() {
        int sum = 0;
        for (int p = 0; p < now.people.size(); p++) {
            sum += one(p).fate == 0 ? servedIn(p) : 0;
        }
        return sum;
    }

    int saved(int l, int other) {
        Model m = trial();
        m.merge(l, other);
        return allWaits() - m.allWaits();
    }

    int runScript(int n, long script) {
        argument(n >= 1 && n <= 3 && script >= 0 && Long.toString(script).length() <= 5 * n);
        String digits = "0".repeat(5 * n - Long.toString(script).length()) + script;
        Model m = trial();
        for (int i = 0; i < n; i++) {
            try {
                m.command(digits.substring(5 * i, 5 * i + 5));
            } catch (RuntimeException e) {
                return i;
            }
        }
        return -1;
    }

    private void command(String group) {
        int a = Integer.parseInt(group.substring(1, 3));
        int b = Integer.parseInt(group.substring(3));
        if (group.matches("1..00")) {
            come(a / 10, a % 10);
        } else if (group.matches("200..")) {
            go(b);
        } else if (group.matches("3....")) {
            exchange(a, b);
        } else if (group.matches("400..")) {
            jump(b);
        } else if (group.matches("5..00")) {
            merge(a / 10, a % 10);
        } else if (group.matches("600..")) {
            minutes(b);
        } else if (group.matches("700..")) {
            state(one(b).fate == 1);
        } else if (group.matches("8....")) {
            state(one(a).fate == 0 && place(a) == b);
        } else if (group.matches("90...")) {
            state(now.house <= Integer.parseInt(group.substring(2)));
        } else {
            throw new IllegalStateException();
        }
    }

    int simulate(long seed, int m) {
        argument(m >= 1 && m <= 99);
        Model on = trial();
        long x = seed;
        int served = 0;
        for (int i = 0; i < m; i++) {
            x = x * 6364136223846793005L + 1442695040888963407L;
            int r = (int) (x >>> 33);
            try {
                on.turn(r);
            } catch (RuntimeException e) {
                // left out
            }
            served += on.pass(1);
        }
        return 1000 * served + Math.min(999, on.now.house - now.house);
    }

    private void turn(int r) {
        int lines = now.lines.size();
        int n = now.people.isEmpty() ? 1 : now.people.size();
        switch (r % 16) {
            case 0, 1, 2, 3, 4 -> come(r / 16 % lines, r / 64 % 3);
            case 5, 6, 7 -> exchange(r / 64 % n, r / 2048 % n);
            case 8, 9 -> jump(r / 64 % n);
            case 10 -> go(r / 64 % n);
            case 11 -> merge(r / 16 % lines, r / 64 % lines);
            default -> { }
        }
    }

    int save(int slot) {
        if (slot < 0 || slot > 1) {
            throw new IndexOutOfBoundsException();
        }
        slots[slot] = now.copy();
        return now.minutes;
    }

    int restore(int slot) {
        if (slot < 0 || slot > 1) {
            throw new IndexOutOfBoundsException();
        }
        state(slots[slot] != null);
        now = slots[slot].copy();
        before.clear();
        return now.minutes;
    }
}
