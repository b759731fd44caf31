import java.util.ArrayDeque;
import java.util.ArrayList;
import java.util.Arrays;
import java.util.Deque;
import java.util.HashSet;
import java.util.IdentityHashMap;
import java.util.List;
import java.util.Map;
import java.util.Set;

/**
 * Long runs of calls, each answered by the program and by a second, plainer reading of the document:
 * rows are objects, a route is a set of these objects, a cranking is done on a copy.
 */
public final class ModelTest {
    private static final int RUNS = 4000;
    private static final int CALLS = 500;
    private static final int INVALID = -1000001;
    private static final int IMPOSSIBLE = -1000002;
    private static final int LIMIT = -1000003;
    private static final int MISSING = -1000004;

    /** An own row of numbers, so that each run of the test is the same. */
    private static long seed = 1;

    private static int below(int bound) {
        seed = seed * 6364136223846793005L + 1442695040888963407L;
        return (int) ((seed >>> 33) % bound);
    }

    private static final class Sign {
        final String name;
        int wear;
        boolean torn;

        Sign(String name) {
            this.name = name;
        }
    }

    private static final class Line {
        Set<Sign> signs = new HashSet<>();
        int stops;
        int right;
    }

    private static final class State {
        List<Sign> roll = new ArrayList<>();
        List<Line> lines = new ArrayList<>();
        int[] settings = {24, 30, 10};
        int shown;
        int driven = -1;
        int tears;
        int passed;
        int stops;
        int right;

        State copy() {
            State c = new State();
            Map<Sign, Sign> twins = new IdentityHashMap<>();
            for (Sign s : roll) {
                Sign t = new Sign(s.name);
                t.wear = s.wear;
                t.torn = s.torn;
                twins.put(s, t);
                c.roll.add(t);
            }
            for (Line l : lines) {
                Line m = new Line();
                for (Sign s : l.signs) {
                    m.signs.add(twins.get(s));
                }
                m.stops = l.stops;
                m.right = l.right;
                c.lines.add(m);
            }
            c.settings = settings.clone();
            c.shown = shown;
            c.driven = driven;
            c.tears = tears;
            c.passed = passed;
            c.stops = stops;
            c.right = right;
            return c;
        }

        int bits(Set<Sign> signs) {
            int bits = 0;
            for (int i = 0; i < roll.size(); i++) {
                bits |= signs.contains(roll.get(i)) ? 1 << i : 0;
            }
            return bits;
        }

        int torn() {
            Set<Sign> torn = new HashSet<>(roll);
            torn.removeIf(s -> !s.torn);
            return bits(torn);
        }

        int percent(String name) {
            int width = widthOf(name);
            return width > settings[0] ? width * 100 / settings[0] : 100;
        }

        int wrong(int place) {
            if (roll.isEmpty()) {
                return 1;
            }
            Sign s = roll.get(place);
            int kind = kindOf(s.name);
            if (s.torn) {
                return 2;
            }
            if (driven == -1 && kind != 1 && kind != 2) {
                return 3;
            }
            if (driven != -1 && !lines.get(driven).signs.contains(s) && kind != 2) {
                return 4;
            }
            return percent(s.name) > 120 ? 5 : 0;
        }

        /** Answers how many rows tore, by how many it went on, and why it ended. */
        int[] crank(int rows, int speed) {
            int torn = 0;
            int gone = 0;
            int way = rows / Math.abs(rows);
            while (true) {
                if (gone == Math.abs(rows)) {
                    return new int[] {torn, gone, 0};
                }
                int next = shown + way;
                if (next < 0 || next == roll.size()) {
                    return new int[] {torn, gone, 1};
                }
                Sign left = roll.get(shown);
                if (left.torn && gone > 0) {
                    return new int[] {torn, gone, 2};
                }
                gone++;
                passed++;
                if (speed != 3 || gone % 2 == 1) {
                    left.wear += speed;
                    if (left.wear > settings[1] && !left.torn) {
                        left.torn = true;
                        torn++;
                        tears++;
                    }
                }
                shown = next;
            }
        }
    }

    private static int widthOf(String name) {
        int width = 0;
        for (char c : name.toCharArray()) {
            width += "I ".indexOf(c) >= 0 ? 1 : "MW".indexOf(c) >= 0 ? 3 : 2;
        }
        return width;
    }

    private static int kindOf(String name) {
        return name.length() == 1 ? 4 : 1 + Arrays.asList("DEPOT", "SORRY", "PRIVATE").indexOf(name);
    }

    private State now = new State();
    private final Deque<State> history = new ArrayDeque<>();
    private String text = "";

    private void record() {
        history.addLast(now.copy());
        if (history.size() == 5) {
            history.removeFirst();
        }
    }

    /** Place, reason and cause, or null. */
    private int[] fault() {
        int place = 0;
        int rows = now.roll.size();
        for (String name : text.split("/", -1)) {
            int broken = brokenAt(name);
            if (broken >= 0) {
                return new int[] {place, 1, broken};
            }
            if (now.percent(name) > 150) {
                return new int[] {place, 2, now.percent(name)};
            }
            if (rows == 20) {
                return new int[] {place, 3, name.length()};
            }
            rows++;
            place += name.length() + 1;
        }
        return null;
    }

    private static int brokenAt(String name) {
        for (int i = 0; i < name.length(); i++) {
            if (i == 14 || !name.substring(0, i + 1).matches("[A-Z]+( [A-Z]+)* ?")) {
                return i;
            }
        }
        return name.isEmpty() ? 0 : name.endsWith(" ") ? name.length() - 1 : -1;
    }

    private boolean isRow(int row) {
        return row >= 0 && row < now.roll.size();
    }

    private boolean isCrank(int rows, int speed) {
        return Math.abs((long) rows) <= 20 && rows != 0 && speed >= 1 && speed <= 3;
    }

    private int answer(String call, int a, int b, int c) {
        switch (call) {
            case "add": return add();
            case "cut": return cut(a);
            case "swap": return swap(a, b);
            case "mend": return mend(a);
            case "crank": return crank(a, b);
            case "route": return route(a);
            case "drive": return drive(a);
            case "stop": return stop();
            case "set": return set(a, b);
            case "rowOf": return rowOf(a, b);
            case "letter": return letter(a, b);
            case "routeOf": return routeOf(a, b);
            case "would": return would(a, b, c);
            case "nearest": return nearest(a);
            case "alike": return alike(a, b);
            case "read": return read(a);
            case "find": return find();
            case "mean": return mean();
            case "count": return count(a);
            case "undo": return undo();
            case "type": return type(a);
            case "clearText": return clearText();
            default: return a < 0 || a > 2 ? INVALID : fault() == null ? MISSING : fault()[a];
        }
    }

    private int add() {
        if (fault() != null) {
            return IMPOSSIBLE;
        }
        record();
        String[] names = text.split("/", -1);
        for (String name : names) {
            now.roll.add(new Sign(name));
        }
        return names.length;
    }

    private int cut(int row) {
        if (!isRow(row)) {
            return INVALID;
        }
        record();
        Sign shown = now.roll.get(now.shown);
        Sign gone = now.roll.remove(row);
        for (Line line : now.lines) {
            line.signs.remove(gone);
        }
        now.shown = shown == gone ? Math.max(0, Math.min(row, now.roll.size() - 1)) : now.roll.indexOf(shown);
        return now.roll.isEmpty() ? -1 : now.shown;
    }

    private int swap(int one, int other) {
        if (!isRow(one) || !isRow(other) || one == other) {
            return INVALID;
        }
        record();
        java.util.Collections.swap(now.roll, one, other);
        return now.shown;
    }

    private int mend(int row) {
        if (!isRow(row)) {
            return INVALID;
        }
        Sign s = now.roll.get(row);
        if (!s.torn) {
            return IMPOSSIBLE;
        }
        record();
        s.torn = false;
        s.wear /= 2;
        return s.wear;
    }

    private int crank(int rows, int speed) {
        if (!isCrank(rows, speed)) {
            return INVALID;
        }
        if (now.roll.isEmpty()) {
            return IMPOSSIBLE;
        }
        record();
        now.crank(rows, speed);
        return now.shown;
    }

    private int route(int rows) {
        if (rows <= 0 || rows >= 1L << now.roll.size()) {
            return INVALID;
        }
        if (now.lines.size() == 6) {
            return LIMIT;
        }
        record();
        Line line = new Line();
        for (int i = 0; i < now.roll.size(); i++) {
            if ((rows & 1 << i) != 0) {
                line.signs.add(now.roll.get(i));
            }
        }
        now.lines.add(line);
        return now.lines.size() - 1;
    }

    private int drive(int route) {
        if (route < -1 || route >= now.lines.size()) {
            return INVALID;
        }
        record();
        int before = now.driven;
        now.driven = route;
        return before;
    }

    private int stop() {
        record();
        int wrong = now.wrong(now.shown);
        int right = wrong == 0 ? 1 : 0;
        now.stops++;
        now.right += right;
        if (now.driven >= 0) {
            now.lines.get(now.driven).stops++;
            now.lines.get(now.driven).right += right;
        }
        return wrong;
    }

    private int set(int what, int value) {
        int[][] ranges = {{4, 60}, {1, 200}, {1, 50}};
        if (what < 0 || what > 2 || value < ranges[what][0] || value > ranges[what][1]) {
            return INVALID;
        }
        record();
        int before = now.settings[what];
        now.settings[what] = value;
        return before;
    }

    private int rowOf(int row, int what) {
        if (!isRow(row) || what < 0 || what > 7) {
            return INVALID;
        }
        Sign s = now.roll.get(row);
        int routes = 0;
        for (int i = 0; i < now.lines.size(); i++) {
            routes += now.lines.get(i).signs.contains(s) ? 1 << i : 0;
        }
        return new int[] {s.name.length(), widthOf(s.name), now.percent(s.name), kindOf(s.name), s.wear,
            s.torn ? 1 : 0, routes, now.shown == row ? 1 : 0}[what];
    }

    private int letter(int row, int index) {
        if (!isRow(row) || index < 0) {
            return INVALID;
        }
        String name = now.roll.get(row).name;
        return index >= name.length() ? MISSING : name.charAt(index);
    }

    private int routeOf(int route, int what) {
        if (route < 0 || route >= now.lines.size() || what < 0 || what > 4) {
            return INVALID;
        }
        Line line = now.lines.get(route);
        return new int[] {now.bits(line.signs), line.signs.size(), now.bits(line.signs) & now.torn(),
            line.stops, line.right}[what];
    }

    private int would(int rows, int speed, int what) {
        if (!isCrank(rows, speed) || what < 0 || what > 3) {
            return INVALID;
        }
        if (now.roll.isEmpty()) {
            return IMPOSSIBLE;
        }
        State tried = now.copy();
        int[] end = tried.crank(rows, speed);
        return what == 0 ? tried.shown : end[what - 1];
    }

    private int nearest(int what) {
        if (what < 0 || what > 1) {
            return INVALID;
        }
        for (int far = 0; far < 20; far++) {
            for (int way = 1; way >= -1; way -= 2) {
                int row = now.shown + way * far;
                if (isRow(row) && now.wrong(row) == 0) {
                    return what == 0 ? row : way * far;
                }
            }
        }
        return MISSING;
    }

    private int alike(int one, int other) {
        if (!isRow(one) || !isRow(other)) {
            return INVALID;
        }
        String a = now.roll.get(one).name;
        String b = now.roll.get(other).name;
        int most = Math.min(a.length(), b.length());
        while (!a.substring(0, most).equals(b.substring(0, most))) {
            most--;
        }
        return most;
    }

    private int read(int distance) {
        if (distance < 1 || distance > 999) {
            return INVALID;
        }
        if (now.roll.isEmpty()) {
            return MISSING;
        }
        Sign s = now.roll.get(now.shown);
        int sum = 0;
        for (char c : s.name.toCharArray()) {
            int reach = widthOf(String.valueOf(c)) * now.settings[2] * 100 / now.percent(s.name);
            sum += c == ' ' || reach >= distance ? 1 : 0;
        }
        return s.torn ? 0 : sum;
    }

    private int find() {
        for (int i = 0; i < now.roll.size(); i++) {
            if (now.roll.get(i).name.equals(text)) {
                return i;
            }
        }
        return MISSING;
    }

    private int mean() {
        int sum = 0;
        for (Sign s : now.roll) {
            sum += widthOf(s.name);
        }
        return now.roll.isEmpty() ? MISSING : Float.floatToIntBits((float) sum / (float) now.roll.size());
    }

    private int count(int what) {
        boolean empty = now.roll.isEmpty();
        switch (what) {
            case 0: return now.roll.size();
            case 1: return empty ? MISSING : now.shown;
            case 2: return now.lines.size();
            case 3: return now.driven < 0 ? MISSING : now.driven;
            case 4: return now.torn();
            case 5: return now.tears;
            case 6: return now.passed;
            case 7: return now.stops;
            case 8: return now.right;
            case 9: return now.wrong(now.shown);
            case 10: return widest();
            case 11: return history.size();
            case 12: return text.length();
            case 20:
            case 21:
            case 22: return now.settings[what - 20];
            default: return INVALID;
        }
    }

    private int widest() {
        int best = MISSING;
        for (int i = now.roll.size() - 1; i >= 0; i--) {
            if (best < 0 || widthOf(now.roll.get(i).name) >= widthOf(now.roll.get(best).name)) {
                best = i;
            }
        }
        return best;
    }

    private int undo() {
        if (history.isEmpty()) {
            return IMPOSSIBLE;
        }
        now = history.removeLast();
        return history.size();
    }

    private int type(int character) {
        if (character < 32 || character > 126) {
            return INVALID;
        }
        if (text.length() == 60) {
            return LIMIT;
        }
        text += (char) character;
        return text.length();
    }

    private int clearText() {
        int before = text.length();
        text = "";
        return before;
    }

    // ---- the runs

    private static int answerOfProgram(HandBlinds x, String call, int a, int b, int c) {
        switch (call) {
            case "add": return x.add();
            case "cut": return x.cut(a);
            case "swap": return x.swap(a, b);
            case "mend": return x.mend(a);
            case "crank": return x.crank(a, b);
            case "route": return x.route(a);
            case "drive": return x.drive(a);
            case "stop": return x.stop();
            case "set": return x.set(a, b);
            case "rowOf": return x.rowOf(a, b);
            case "letter": return x.letter(a, b);
            case "routeOf": return x.routeOf(a, b);
            case "would": return x.would(a, b, c);
            case "nearest": return x.nearest(a);
            case "alike": return x.alike(a, b);
            case "read": return x.read(a);
            case "find": return x.find();
            case "mean": return x.mean();
            case "count": return x.count(a);
            case "undo": return x.undo();
            case "type": return x.type(a);
            case "clearText": return x.clearText();
            default: return x.fault(a);
        }
    }

    private static final String[] NAMES = {"DEPOT", "SORRY", "PRIVATE", "A", "Q", "NORTH", "NORTH END", "NORTHERN",
        "MMMMMMMM", "WMWMWMWMWM", "MMMMMMMMMMMM", "IIIIIIIIIIIIII", "I I I", "ABCDEFGHIJKLMN", "MI WI", "AB", "ABC"};
    private static final String[] BAD_NAMES = {"", " A", "A ", "A  B", "aB", "ABc", "A-B", "ABCDEFGHIJKLMNO",
        "MMMMMMMMMMMMMM", "ABCDEFGHIJKLM ", "ABCDEFGHIJKLM N", "WWWWWWWWWWWWW", " "};

    private final List<String> calls = new ArrayList<>();
    private HandBlinds program = new HandBlinds();
    private int left = CALLS;
    private boolean good = true;

    private void call(String name, int a, int b, int c) {
        if (left == 0 || !good) {
            return;
        }
        left--;
        calls.add(name + "(" + a + ", " + b + ", " + c + ")");
        int got = answerOfProgram(program, name, a, b, c);
        int want = answer(name, a, b, c);
        if (got != want) {
            good = false;
            System.out.println(calls);
            System.out.println("the last of these answered " + got + ", the model says " + want);
        }
    }

    private void write(String name) {
        for (char c : name.toCharArray()) {
            call("type", c, 0, 0);
        }
    }

    private void writeText() {
        call("clearText", 0, 0, 0);
        int names = 1 + below(below(4) == 0 ? 25 : 5);
        for (int i = 0; i < names && text.length() < 61; i++) {
            if (i > 0) {
                call("type", '/', 0, 0);
            }
            String plain = names > 6 ? String.valueOf((char) ('A' + below(26))) : NAMES[below(NAMES.length)];
            write(below(12) == 0 ? BAD_NAMES[below(BAD_NAMES.length)] : plain);
        }
        for (int what = 0; what < 3; what++) {
            call("fault", what, 0, 0);
        }
        call("add", 0, 0, 0);
    }

    private int someRow() {
        return below(15) == 0 ? below(25) - 2 : below(Math.max(1, now.roll.size()));
    }

    private int someRows() {
        return below(15) == 0 ? below(2) : below(3) == 0 ? below(41) - 20 : below(9) - 4;
    }

    private int someSetting(int what) {
        return what == 0 ? (below(3) == 0 ? 3 + below(59) : 12 + below(20)) : below(what == 1 && below(4) > 0 ? 8 : 202);
    }

    private void changeSomething() {
        int row = someRow();
        int what = below(4) == 0 ? below(5) - 1 : below(3);
        switch (below(16)) {
            case 0:
            case 1: writeText(); break;
            case 2: call("cut", row, 0, 0); break;
            case 3: call("swap", row, someRow(), 0); break;
            case 4: call("mend", now.torn() == 0 ? row : Integer.numberOfTrailingZeros(now.torn()), 0, 0); break;
            case 5:
            case 6:
            case 7:
            case 8: call("crank", someRows(), below(10) == 0 ? below(6) - 1 : 1 + below(3), 0); break;
            case 9: call("route", below(1 << Math.min(20, now.roll.size())) + (below(9) == 0 ? 1 << 20 : 0), 0, 0); break;
            case 10: call("drive", below(now.lines.size() + 3) - 2, 0, 0); break;
            case 11:
            case 12: call("stop", 0, 0, 0); break;
            case 13: call("set", what, someSetting(what), 0); break;
            case 14: call("undo", 0, 0, 0); break;
            default: call("add", 0, 0, 0); break;
        }
    }

    private void askSomething() {
        int what = below(10) - 1;
        switch (below(12)) {
            case 0:
            case 1: call("rowOf", someRow(), what, 0); break;
            case 2: call("letter", someRow(), below(17) - 1, 0); break;
            case 3: call("routeOf", below(now.lines.size() + 2) - 1, below(7) - 1, 0); break;
            case 4:
            case 5: call("would", someRows(), below(5), below(6) - 1); break;
            case 6: call("nearest", below(4) - 1, 0, 0); break;
            case 7: call("alike", someRow(), someRow(), 0); break;
            case 8: call("read", below(2) == 0 ? below(50) : below(1003), 0, 0); break;
            case 9: call("find", 0, 0, 0); break;
            case 10: call("mean", 0, 0, 0); break;
            default: call("fault", below(5) - 1, 0, 0); break;
        }
    }

    private void askAll() {
        for (int what = -1; what <= 23; what++) {
            call("count", what, 0, 0);
        }
        for (int row = 0; row < now.roll.size(); row++) {
            for (int what = 4; what <= 6; what++) {
                call("rowOf", row, what, 0);
            }
        }
    }

    private boolean run() {
        while (left > 90 && good) {
            changeSomething();
            askSomething();
            if (below(3) == 0) {
                call("count", below(13), 0, 0);
            }
        }
        askAll();
        return good;
    }

    public static void main(String[] arguments) {
        int wrong = 0;
        for (int i = 0; i < RUNS && wrong < 3; i++) {
            if (!new ModelTest().run()) {
                wrong++;
            }
        }
        System.out.println(wrong == 0 ? RUNS + " runs are as the model says" : "runs are not as the model says");
        if (wrong != 0) {
            System.exit(1);
        }
    }
}
