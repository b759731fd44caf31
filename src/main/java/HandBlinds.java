/**
 * A blind of a bus that is rolled by hand: a roll of names, cranked row by row, that wears and tears,
 * with the routes to which the names belong, and a text in which further names are typed.
 *
 * Every call looks at its arguments first, then records the state if it is a change, and only then
 * changes anything, so that a call that returns an error leaves no trace.
 */
public final class HandBlinds {
    public static final int INVALID_ARGUMENT = -1000001;
    public static final int NOT_POSSIBLE = -1000002;
    public static final int LIMIT_REACHED = -1000003;
    public static final int NOT_FOUND = -1000004;

    private static final int MOST_ROWS = 20;
    private static final int MOST_ROUTES = 6;
    private static final int MOST_STATES = 4;
    private static final int MOST_LETTERS = 14;
    private static final int MOST_SIGNS = 60;
    private static final int MOST_CRANKED = 20;
    private static final int MOST_SPEED = 3;
    private static final int MOST_DISTANCE = 999;
    private static final int NONE = -1;

    private static final int SETTINGS = 3;
    private static final int WIDTH = 0;
    private static final int STRENGTH = 1;
    private static final int SIGHT = 2;
    private static final int[] LEAST = {4, 1, 1};
    private static final int[] MOST = {60, 200, 50};
    private static final int[] FIRST = {24, 30, 10};

    private static final int NOT_SQUEEZED = 100;
    private static final int MOST_SQUEEZED_IF_RIGHT = 120;
    private static final int MOST_SQUEEZED_IF_ADDED = 150;

    private static final int DEPOT = 1;
    private static final int SORRY = 2;
    private static final int PRIVATE = 3;
    private static final int ONE_LETTER = 4;

    private static final int RIGHT = 0;
    private static final int NO_NAME = 1;
    private static final int TORN = 2;
    private static final int NEEDS_ROUTE = 3;
    private static final int OTHER_ROUTE = 4;
    private static final int TOO_SQUEEZED = 5;

    private static final int BAD_FORM = 1;
    private static final int TOO_WIDE = 2;
    private static final int ROLL_FULL = 3;

    private final Text text;
    private final Blind now;
    private final Blind[] history;
    private int states;

    public HandBlinds() {
        text = new Text();
        now = new Blind();
        history = new Blind[MOST_STATES];
        for (int i = 0; i < MOST_STATES; i++) {
            history[i] = new Blind();
        }
        states = 0;
    }

    // ---- the roll

    public int add() {
        if (faultPlace() != NONE) {
            return NOT_POSSIBLE;
        }
        remember();
        int names = text.namesAhead(text.length) + 1;
        int from = 0;
        for (int i = 0; i < names; i++) {
            int end = text.endOfName(from);
            now.append(text, from, end);
            from = end + 1;
        }
        return names;
    }

    public int cut(int row) {
        if (!now.hasRow(row)) {
            return INVALID_ARGUMENT;
        }
        remember();
        now.remove(row);
        return now.rowCount == 0 ? NONE : now.shown;
    }

    public int swap(int one, int other) {
        if (!now.hasRow(one) || !now.hasRow(other) || one == other) {
            return INVALID_ARGUMENT;
        }
        remember();
        now.exchange(one, other);
        return now.shown;
    }

    public int mend(int row) {
        if (!now.hasRow(row)) {
            return INVALID_ARGUMENT;
        }
        if (!now.rows[row].torn) {
            return NOT_POSSIBLE;
        }
        remember();
        now.rows[row].patch();
        return now.rows[row].wear;
    }

    public int crank(int rows, int speed) {
        if (!isCranking(rows, speed)) {
            return INVALID_ARGUMENT;
        }
        if (now.rowCount == 0) {
            return NOT_POSSIBLE;
        }
        remember();
        now.roll(rows, speed);
        return now.shown;
    }

    // ---- routes

    public int route(int rows) {
        if (rows <= 0 || (rows >> now.rowCount) != 0) {
            return INVALID_ARGUMENT;
        }
        if (now.routeCount >= MOST_ROUTES) {
            return LIMIT_REACHED;
        }
        remember();
        return now.appendRoute(rows);
    }

    public int drive(int route) {
        if (route != NONE && !now.hasRoute(route)) {
            return INVALID_ARGUMENT;
        }
        remember();
        int before = now.driven;
        now.driven = route;
        return before;
    }

    public int stop() {
        remember();
        return now.halt();
    }

    public int set(int what, int value) {
        if (what < 0 || what >= SETTINGS || value < LEAST[what] || value > MOST[what]) {
            return INVALID_ARGUMENT;
        }
        remember();
        int before = now.settings[what];
        now.settings[what] = value;
        return before;
    }

    // ---- what there is

    public int rowOf(int row, int what) {
        if (!now.hasRow(row)) {
            return INVALID_ARGUMENT;
        }
        Row asked = now.rows[row];
        switch (what) {
            case 0: return asked.length;
            case 1: return asked.width();
            case 2: return now.squeezed(asked.width());
            case 3: return asked.kind();
            case 4: return asked.wear;
            case 5: return asked.torn ? 1 : 0;
            case 6: return now.routesOf(row);
            case 7: return row == now.shown ? 1 : 0;
            default: return INVALID_ARGUMENT;
        }
    }

    public int letter(int row, int index) {
        if (!now.hasRow(row) || index < 0) {
            return INVALID_ARGUMENT;
        }
        Row asked = now.rows[row];
        return index < asked.length ? asked.letters[index] : NOT_FOUND;
    }

    public int routeOf(int route, int what) {
        if (!now.hasRoute(route)) {
            return INVALID_ARGUMENT;
        }
        Route asked = now.routes[route];
        switch (what) {
            case 0: return asked.rows;
            case 1: return Integer.bitCount(asked.rows);
            case 2: return asked.rows & now.tornRows();
            case 3: return asked.stops;
            case 4: return asked.rightStops;
            default: return INVALID_ARGUMENT;
        }
    }

    // ---- what would be

    public int would(int rows, int speed, int what) {
        if (!isCranking(rows, speed) || what < 0 || what > 3) {
            return INVALID_ARGUMENT;
        }
        if (now.rowCount == 0) {
            return NOT_POSSIBLE;
        }
        int steps = now.stepsOf(rows);
        switch (what) {
            case 0: return now.rowAfter(rows, steps);
            case 1: return now.tearsOf(rows, speed);
            case 2: return steps;
            default: return now.endOf(rows, steps);
        }
    }

    public int nearest(int what) {
        if (what < 0 || what > 1) {
            return INVALID_ARGUMENT;
        }
        int row = now.nearestRight();
        if (row == NONE) {
            return NOT_FOUND;
        }
        return what == 0 ? row : row - now.shown;
    }

    public int alike(int one, int other) {
        if (!now.hasRow(one) || !now.hasRow(other)) {
            return INVALID_ARGUMENT;
        }
        return now.rows[one].sharedStart(now.rows[other]);
    }

    public int read(int distance) {
        if (distance < 1 || distance > MOST_DISTANCE) {
            return INVALID_ARGUMENT;
        }
        if (!now.hasRow(now.shown)) {
            return NOT_FOUND;
        }
        return now.legible(now.rows[now.shown], distance);
    }

    public int find() {
        for (int i = 0; i < now.rowCount; i++) {
            if (text.isNameOf(now.rows[i])) {
                return i;
            }
        }
        return NOT_FOUND;
    }

    public int mean() {
        if (now.rowCount == 0) {
            return NOT_FOUND;
        }
        return floatBits((float) now.widthOfAll() / (float) now.rowCount);
    }

    public int count(int what) {
        switch (what) {
            case 0: return now.rowCount;
            case 1: return now.rowCount == 0 ? NOT_FOUND : now.shown;
            case 2: return now.routeCount;
            case 3: return now.driven == NONE ? NOT_FOUND : now.driven;
            case 4: return now.tornRows();
            case 5: return now.tears;
            case 6: return now.passed;
            case 7: return now.stops;
            case 8: return now.rightStops;
            case 9: return now.wrongOf(now.shown);
            case 10: return now.rowCount == 0 ? NOT_FOUND : now.widest();
            case 11: return states;
            case 12: return text.length;
            case 20: return now.settings[WIDTH];
            case 21: return now.settings[STRENGTH];
            case 22: return now.settings[SIGHT];
            default: return INVALID_ARGUMENT;
        }
    }

    public int undo() {
        if (states == 0) {
            return NOT_POSSIBLE;
        }
        states--;
        now.become(history[states]);
        return states;
    }

    // ---- texts

    public int type(int character) {
        if (character < 32 || character > 126) {
            return INVALID_ARGUMENT;
        }
        if (text.length >= MOST_SIGNS) {
            return LIMIT_REACHED;
        }
        text.append((char) character);
        return text.length;
    }

    public int clearText() {
        int before = text.length;
        text.length = 0;
        return before;
    }

    public int fault(int what) {
        if (what < 0 || what > 2) {
            return INVALID_ARGUMENT;
        }
        int place = faultPlace();
        if (place == NONE) {
            return NOT_FOUND;
        }
        switch (what) {
            case 0: return place;
            case 1: return faultReason(place);
            default: return faultCause(place);
        }
    }

    private static boolean isCranking(int rows, int speed) {
        return rows >= -MOST_CRANKED && rows <= MOST_CRANKED && rows != 0 && speed >= 1 && speed <= MOST_SPEED;
    }

    /** The state that falls out lends its rows to the new one, so that no call makes objects. */
    private void remember() {
        if (states == MOST_STATES) {
            Blind oldest = history[0];
            for (int i = 1; i < MOST_STATES; i++) {
                history[i - 1] = history[i];
            }
            history[MOST_STATES - 1] = oldest;
            states--;
        }
        history[states].become(now);
        states++;
    }

    /** Where the first name begins that cannot be added, or NONE. */
    private int faultPlace() {
        int names = text.namesAhead(text.length) + 1;
        int from = 0;
        for (int i = 0; i < names; i++) {
            if (faultReason(from) != 0) {
                return from;
            }
            from = text.endOfName(from) + 1;
        }
        return NONE;
    }

    /** Why the name that begins there cannot be added behind those ahead of it in the text, or 0. */
    private int faultReason(int from) {
        int end = text.endOfName(from);
        if (text.breakOf(from, end) != NONE) {
            return BAD_FORM;
        }
        if (now.squeezed(text.width(from, end)) > MOST_SQUEEZED_IF_ADDED) {
            return TOO_WIDE;
        }
        return now.rowCount + text.namesAhead(from) >= MOST_ROWS ? ROLL_FULL : 0;
    }

    private int faultCause(int from) {
        int end = text.endOfName(from);
        switch (faultReason(from)) {
            case BAD_FORM: return text.breakOf(from, end);
            case TOO_WIDE: return now.squeezed(text.width(from, end));
            default: return end - from;
        }
    }

    private static int letterWidth(char letter) {
        if (letter == 'I' || letter == ' ') {
            return 1;
        }
        return letter == 'M' || letter == 'W' ? 3 : 2;
    }

    /** By hand, as the library's own way to the bits is not allowed here; exact for 1 and more, as all widths are. */
    private static int floatBits(float value) {
        float rest = value;
        int exponent = 127;
        for (int i = 0; i < 127 && rest >= 2.0f; i++) {
            rest = rest / 2.0f;
            exponent++;
        }
        int fraction = (int) ((rest - 1.0f) * 8388608.0f);
        return (exponent << 23) + fraction;
    }

    /** The text that is typed; it stands outside the states, as no undo brings it back. */
    private static final class Text {
        final char[] signs;
        int length;

        Text() {
            signs = new char[MOST_SIGNS];
            length = 0;
        }

        void append(char sign) {
            if (length < MOST_SIGNS) {
                signs[length] = sign;
                length++;
            }
        }

        /** How many names end ahead of a place. */
        int namesAhead(int place) {
            int names = 0;
            for (int i = 0; i < place && i < length; i++) {
                if (signs[i] == '/') {
                    names++;
                }
            }
            return names;
        }

        int endOfName(int from) {
            for (int i = from; i < length; i++) {
                if (signs[i] == '/') {
                    return i;
                }
            }
            return length;
        }

        /** At which character of the name its form breaks off, or NONE. */
        int breakOf(int from, int end) {
            if (from >= end) {
                return 0;
            }
            for (int i = from; i < end; i++) {
                if (i - from >= MOST_LETTERS || !fits(i, from, end)) {
                    return i - from;
                }
            }
            return NONE;
        }

        boolean fits(int place, int from, int end) {
            if (signs[place] == ' ') {
                return place > from && place < end - 1 && signs[place - 1] != ' ';
            }
            return signs[place] >= 'A' && signs[place] <= 'Z';
        }

        int width(int from, int end) {
            int sum = 0;
            for (int i = from; i < end; i++) {
                sum += letterWidth(signs[i]);
            }
            return sum;
        }

        boolean isNameOf(Row row) {
            if (row.length != length) {
                return false;
            }
            for (int i = 0; i < row.length; i++) {
                if (row.letters[i] != signs[i]) {
                    return false;
                }
            }
            return true;
        }
    }

    /** A row of the roll. */
    private static final class Row {
        final char[] letters;
        int length;
        int wear;
        boolean torn;

        Row() {
            letters = new char[MOST_LETTERS];
        }

        void copyRow(Row other) {
            System.arraycopy(other.letters, 0, letters, 0, MOST_LETTERS);
            length = other.length;
            wear = other.wear;
            torn = other.torn;
        }

        void begin(Text text, int from, int end) {
            length = 0;
            for (int i = from; i < end && length < MOST_LETTERS; i++) {
                letters[length] = text.signs[i];
                length++;
            }
            wear = 0;
            torn = false;
        }

        void patch() {
            wear = wear / 2;
            torn = false;
        }

        int width() {
            int sum = 0;
            for (int i = 0; i < length; i++) {
                sum += letterWidth(letters[i]);
            }
            return sum;
        }

        int kind() {
            if (length == 1) {
                return ONE_LETTER;
            }
            if (isNamed("DEPOT")) {
                return DEPOT;
            }
            if (isNamed("SORRY")) {
                return SORRY;
            }
            return isNamed("PRIVATE") ? PRIVATE : 0;
        }

        boolean isNamed(String name) {
            if (length != name.length()) {
                return false;
            }
            for (int i = 0; i < length; i++) {
                if (letters[i] != name.charAt(i)) {
                    return false;
                }
            }
            return true;
        }

        int sharedStart(Row other) {
            int shared = 0;
            while (shared < length && shared < other.length && letters[shared] == other.letters[shared]) {
                shared++;
            }
            return shared;
        }
    }

    /** A route with its names, told as a set of rows. */
    private static final class Route {
        int rows;
        int stops;
        int rightStops;

        void copyRoute(Route other) {
            rows = other.rows;
            stops = other.stops;
            rightStops = other.rightStops;
        }

        boolean owns(int row) {
            return (rows >> row & 1) == 1;
        }

        void forget(int row) {
            int ahead = rows & ((1 << row) - 1);
            int behind = rows >> (row + 1) << row;
            rows = ahead | behind;
        }

        void changeAbout(int one, int other) {
            if (owns(one) != owns(other)) {
                rows = rows ^ (1 << one) ^ (1 << other);
            }
        }
    }

    /** All that undo brings back: the roll, the routes, the settings and what has been counted. */
    private static final class Blind {
        final Row[] rows;
        int rowCount;
        int shown;
        final Route[] routes;
        int routeCount;
        int driven;
        final int[] settings;
        int tears;
        int passed;
        int stops;
        int rightStops;

        Blind() {
            rows = new Row[MOST_ROWS];
            for (int i = 0; i < MOST_ROWS; i++) {
                rows[i] = new Row();
            }
            routes = new Route[MOST_ROUTES];
            for (int i = 0; i < MOST_ROUTES; i++) {
                routes[i] = new Route();
            }
            settings = new int[SETTINGS];
            System.arraycopy(FIRST, 0, settings, 0, SETTINGS);
            driven = NONE;
        }

        void become(Blind other) {
            for (int i = 0; i < MOST_ROWS; i++) {
                rows[i].copyRow(other.rows[i]);
            }
            for (int i = 0; i < MOST_ROUTES; i++) {
                routes[i].copyRoute(other.routes[i]);
            }
            System.arraycopy(other.settings, 0, settings, 0, SETTINGS);
            rowCount = other.rowCount;
            shown = other.shown;
            routeCount = other.routeCount;
            driven = other.driven;
            tears = other.tears;
            passed = other.passed;
            stops = other.stops;
            rightStops = other.rightStops;
        }

        boolean hasRow(int row) {
            return row >= 0 && row < rowCount;
        }

        boolean hasRoute(int route) {
            return route >= 0 && route < routeCount;
        }

        void append(Text text, int from, int end) {
            if (rowCount < MOST_ROWS) {
                rows[rowCount].begin(text, from, end);
                rowCount++;
            }
        }

        /** The row that is cut out waits behind the roll for a later name. */
        void remove(int row) {
            Row gone = rows[row];
            for (int i = row + 1; i < rowCount; i++) {
                rows[i - 1] = rows[i];
            }
            rowCount--;
            rows[rowCount] = gone;
            for (int i = 0; i < routeCount; i++) {
                routes[i].forget(row);
            }
            boolean lastWasShown = shown == rowCount;
            if (shown > row || lastWasShown && shown > 0) {
                shown--;
            }
        }

        void exchange(int one, int other) {
            Row first = rows[one];
            rows[one] = rows[other];
            rows[other] = first;
            for (int i = 0; i < routeCount; i++) {
                routes[i].changeAbout(one, other);
            }
        }

        int appendRoute(int set) {
            if (routeCount >= MOST_ROUTES) {
                return LIMIT_REACHED;
            }
            routes[routeCount].rows = set;
            routes[routeCount].stops = 0;
            routes[routeCount].rightStops = 0;
            routeCount++;
            return routeCount - 1;
        }

        int routesOf(int row) {
            int set = 0;
            for (int i = 0; i < routeCount; i++) {
                if (routes[i].owns(row)) {
                    set |= 1 << i;
                }
            }
            return set;
        }

        int tornRows() {
            int set = 0;
            for (int i = 0; i < rowCount; i++) {
                if (rows[i].torn) {
                    set |= 1 << i;
                }
            }
            return set;
        }

        int squeezed(int width) {
            int blind = settings[WIDTH];
            return blind > 0 && width > blind ? width * 100 / blind : NOT_SQUEEZED;
        }

        int widthOfAll() {
            int sum = 0;
            for (int i = 0; i < rowCount; i++) {
                sum += rows[i].width();
            }
            return sum;
        }

        int widest() {
            int row = 0;
            for (int i = 1; i < rowCount; i++) {
                if (rows[i].width() > rows[row].width()) {
                    row = i;
                }
            }
            return row;
        }

        /** The row that is shown when a cranking has gone on by some rows. */
        int rowAfter(int wanted, int steps) {
            return wanted > 0 ? shown + steps : shown - steps;
        }

        boolean isEnd(int wanted, int row) {
            return wanted > 0 ? row >= rowCount - 1 : row <= 0;
        }

        /** By how many rows a cranking goes on; the row it began with cannot hold it. */
        int stepsOf(int wanted) {
            int steps = 0;
            for (int i = 0; i < Math.abs(wanted); i++) {
                int row = rowAfter(wanted, steps);
                if (isEnd(wanted, row) || steps > 0 && rows[row].torn) {
                    return steps;
                }
                steps++;
            }
            return steps;
        }

        int endOf(int wanted, int steps) {
            if (steps == Math.abs(wanted)) {
                return 0;
            }
            return isEnd(wanted, rowAfter(wanted, steps)) ? 1 : 2;
        }

        boolean isSkipped(int step, int speed) {
            return speed == MOST_SPEED && step % 2 == 1;
        }

        boolean tearsAt(Row row, int step, int speed) {
            return !isSkipped(step, speed) && !row.torn && row.wear + speed > settings[STRENGTH];
        }

        /** No row is left twice in one cranking, so each can be judged by its wear as it is. */
        int tearsOf(int wanted, int speed) {
            int steps = stepsOf(wanted);
            int sum = 0;
            for (int i = 0; i < steps; i++) {
                if (tearsAt(rows[rowAfter(wanted, i)], i, speed)) {
                    sum++;
                }
            }
            return sum;
        }

        void roll(int wanted, int speed) {
            int steps = stepsOf(wanted);
            for (int i = 0; i < steps; i++) {
                leave(rows[rowAfter(wanted, i)], i, speed);
            }
            passed += steps;
            shown = rowAfter(wanted, steps);
        }

        void leave(Row row, int step, int speed) {
            if (tearsAt(row, step, speed)) {
                row.torn = true;
                tears++;
            }
            if (!isSkipped(step, speed)) {
                row.wear += speed;
            }
        }

        int halt() {
            int wrong = wrongOf(shown);
            int right = wrong == RIGHT ? 1 : 0;
            stops++;
            rightStops += right;
            if (hasRoute(driven)) {
                routes[driven].stops++;
                routes[driven].rightStops += right;
            }
            return wrong;
        }

        /** By what the name of a row would be wrong at a stop if it were shown. */
        int wrongOf(int row) {
            if (!hasRow(row)) {
                return NO_NAME;
            }
            if (rows[row].torn) {
                return TORN;
            }
            int kind = rows[row].kind();
            if (!hasRoute(driven)) {
                if (kind != DEPOT && kind != SORRY) {
                    return NEEDS_ROUTE;
                }
            } else if (!routes[driven].owns(row) && kind != SORRY) {
                return OTHER_ROUTE;
            }
            return squeezed(rows[row].width()) > MOST_SQUEEZED_IF_RIGHT ? TOO_SQUEEZED : RIGHT;
        }

        int nearestRight() {
            int best = NONE;
            for (int i = 0; i < rowCount; i++) {
                boolean nearer = best == NONE || Math.abs(i - shown) <= Math.abs(best - shown);
                if (nearer && wrongOf(i) == RIGHT) {
                    best = i;
                }
            }
            return best;
        }

        /** How many characters of a row are read from a distance. */
        int legible(Row row, int distance) {
            int percent = squeezed(row.width());
            if (row.torn || percent < 1) {
                return 0;
            }
            int sum = 0;
            for (int i = 0; i < row.length; i++) {
                int reach = letterWidth(row.letters[i]) * settings[SIGHT] * 100 / percent;
                if (row.letters[i] == ' ' || reach >= distance) {
                    sum++;
                }
            }
            return sum;
        }
    }
}
