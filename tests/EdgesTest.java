/** Each sentence under "Promise 1" to "Promise 24" of the document that names a boundary case. */
public final class EdgesTest {
    private static final int INVALID = Sentences.INVALID;
    private static final int IMPOSSIBLE = Sentences.IMPOSSIBLE;
    private static final int LIMIT = Sentences.LIMIT;
    private static final int MISSING = Sentences.MISSING;
    private static final int LEAST_INT = Integer.MIN_VALUE;
    private static final int MOST_INT = Integer.MAX_VALUE;
    private static final int[] NO_CRANKING = {0, 21, -21, 22, 1000, -1000, LEAST_INT, LEAST_INT + 1, MOST_INT};
    private static final int[] NO_SPEED = {0, 4, -1, -3, LEAST_INT, MOST_INT};

    public static void main(String[] arguments) {
        newObject();
        add();
        cut();
        swap();
        mend();
        crank();
        route();
        drive();
        stop();
        set();
        rowOf();
        rowOfTears();
        letter();
        routeOf();
        would();
        wouldEnd();
        nearest();
        alike();
        read();
        find();
        mean();
        count();
        countOfWidest();
        undo();
        type();
        clearText();
        fault();
        Sentences.finish();
    }

    private static void says(String sentence) {
        Sentences.says(sentence);
    }

    private static void due(String call, long got, long want) {
        Sentences.due(call, got, want);
    }

    private static HandBlinds blind(String names) {
        return Sentences.roll(names);
    }

    private static void dueNames(String call, HandBlinds x, String names) {
        Sentences.dueSame(call + ", names " + names, Sentences.namesOf(x), names);
    }

    // ---- the roll

    private static void newObject() {
        says("1: Creates a blind without names.");
        int[] counts = {0, MISSING, 0, MISSING, 0, 0, 0, 0, 0, 1, MISSING, 0, 0};
        HandBlinds x = new HandBlinds();
        for (int what = 0; what < counts.length; what++) {
            due("count(" + what + ")", x.count(what), counts[what]);
        }
        due("a row", x.rowOf(0, 0), INVALID);
        due("a route", x.routeOf(0, 0), INVALID);
        HandBlinds other = blind("A");
        other.set(0, 30);
        due("no rows of another object", x.count(0), 0);
        due("no setting of another object", x.count(20), 24);
    }

    private static void add() {
        says("2: Adds the names of the text, which stays, to the end of the roll.");
        HandBlinds x = blind("A/BC");
        x.crank(1, 1);
        due("the text stays", x.count(12), 4);
        due("the same text again", x.add(), 2);
        dueNames("to the end", x, "A/BC/A/BC");
        due("the shown row", x.count(1), 1);
        Sentences.addNames(x, "ABCDEFGHIJKLMN/I");
        dueNames("the longest and the shortest", x, "A/BC/A/BC/ABCDEFGHIJKLMN/I");
        x.cut(4);
        Sentences.addNames(x, "ZZ");
        dueNames("behind a row that moved up", x, "A/BC/A/BC/I/ZZ");

        says("2: Returns how many there are in it;");
        due("one name", Sentences.addNames(new HandBlinds(), "A"), 1);
        due("twenty names", Sentences.addNames(new HandBlinds(), Sentences.TWENTY), 20);
        due("one name onto nineteen", Sentences.addNames(blind(Sentences.NINETEEN), "A"), 1);

        says("2: NOT_POSSIBLE if it has a fault.");
        HandBlinds y = blind(Sentences.NINETEEN);
        String[] bad = {"", " ", "/", "A/", "OK/ A", "ABCDEFGHIJKLMNO", "MMMMMMMMMMMMM", "A/B", Sentences.TWENTY};
        for (String text : bad) {
            due("add of '" + text + "'", Sentences.addNames(y, text), IMPOSSIBLE);
            due("rows after '" + text + "'", y.count(0), 19);
        }
        due("states after faults", y.count(11), 1);
    }

    private static void cut() {
        says("3: If a row behind it is shown, this one is shown still;");
        HandBlinds x = blind("A/B/C/D/E");
        x.crank(4, 1);
        due("the first one out", x.cut(0), 3);
        due("the one just ahead out", x.cut(2), 2);
        dueNames("two are out", x, "B/C/E");
        due("the name that is shown", x.letter(x.count(1), 0), 'E');
        x.crank(-1, 1);
        due("one behind the shown row out", x.cut(2), 1);
        due("the name that is shown then", x.letter(x.count(1), 0), 'C');

        says("3: if it itself is, the one behind it is, or without one the one ahead of it.");
        HandBlinds y = blind("A/B/C");
        due("the shown first one out", y.cut(0), 0);
        due("the one behind it", y.letter(y.count(1), 0), 'B');
        y.crank(1, 1);
        due("the shown last one out", y.cut(1), 0);
        due("the one ahead of it", y.letter(y.count(1), 0), 'B');
        HandBlinds full = blind(Sentences.TWENTY);
        full.crank(20, 1);
        due("the shown last one of twenty out", full.cut(19), 18);

        says("3: Returns the row that is shown then, -1 without rows; INVALID_ARGUMENT.");
        due("the last name of all out", y.cut(0), -1);
        due("no row is left", y.cut(0), INVALID);
        due("on a new object", new HandBlinds().cut(0), INVALID);
        due("behind the roll", full.cut(19), INVALID);
        due("the last one of the roll", full.cut(18), 17);
        due("below 0", full.cut(-1), INVALID);
    }

    private static void swap() {
        says("4: Changes two rows about (with wear and tears; the same place of the roll is shown).");
        HandBlinds x = blind("AB/C/DEF");
        Sentences.tearShown(x);
        due("the first and the last", x.swap(0, 2), 0);
        dueNames("changed about", x, "DEF/C/AB");
        due("wear of the last", x.rowOf(2, 4), 2);
        due("wear of the first", x.rowOf(0, 4), 0);
        due("wear of the other", x.rowOf(1, 4), 1);
        due("tears", x.count(4), 0b100);
        x.crank(1, 1);
        due("two that are not shown", x.swap(2, 0), 1);
        due("tears back again", x.count(4), 0b001);
        due("neighbours", x.swap(1, 2), 1);
        dueNames("changed again", x, "AB/DEF/C");
        HandBlinds full = blind(Sentences.TWENTY);
        due("the ends of a full roll", full.swap(19, 0), 0);
        due("the last", full.letter(19, 0), 'A');
        due("the first", full.letter(0, 0), 'T');

        says("4: Returns the row that is shown; INVALID_ARGUMENT if there is no such row, or both are the same.");
        due("both the first", x.swap(0, 0), INVALID);
        due("both the last", x.swap(2, 2), INVALID);
        due("one behind the roll", x.swap(3, 0), INVALID);
        due("other behind the roll", x.swap(0, 3), INVALID);
        due("one below 0", x.swap(-1, 0), INVALID);
        due("other below 0", x.swap(0, -1), INVALID);
        due("on a new object", new HandBlinds().swap(0, 1), INVALID);
        due("with one row", blind("A").swap(0, 1), INVALID);
    }

    private static void mend() {
        says("5: Mends a row: its wear is half of what it was, and it is not torn.");
        for (int wear = 2; wear <= 9; wear++) {
            HandBlinds x = blind("A/B");
            x.crank(1, 1);
            for (int i = 1; i < wear; i++) {
                x.crank(-1, 1);
                x.set(1, i + 1 == wear ? wear - 1 : 200);
                x.crank(1, 1);
            }
            due("torn with the wear " + wear, x.count(4) & 1, 1);
            due("mend of the wear " + wear, x.mend(0), wear / 2);
            due("wear then", x.rowOf(0, 4), wear / 2);
            due("tear then", x.rowOf(0, 5), 0);
        }
        HandBlinds both = blind("A/B/C");
        both.set(1, 1);
        both.crank(2, 2);
        both.mend(1);
        due("the other tear stays", both.count(4), 0b001);
        due("the other wear stays", both.rowOf(0, 4), 2);

        says("5: Returns its wear then; INVALID_ARGUMENT; NOT_POSSIBLE if it is not torn.");
        due("not torn any more", both.mend(1), IMPOSSIBLE);
        due("never torn", both.mend(2), IMPOSSIBLE);
        due("behind the roll", both.mend(3), INVALID);
        due("below 0", both.mend(-1), INVALID);
        due("on a new object", new HandBlinds().mend(0), INVALID);
        HandBlinds worn = blind("A/B");
        worn.crank(1, 3);
        worn.set(1, 1);
        due("worn above a smaller strength, but not torn", worn.mend(0), IMPOSSIBLE);
    }

    private static void crank() {
        says("6: -20 to 20, not 0: how many rows, up the numbers if above 0");
        HandBlinds x = blind(Sentences.TWENTY);
        due("by 20", x.crank(20, 1), 19);
        due("by -20", x.crank(-20, 1), 0);
        due("by 1", x.crank(1, 1), 1);
        due("by -1", x.crank(-1, 1), 0);
        due("by 19", x.crank(19, 1), 19);
        due("by -19", x.crank(-19, 1), 0);
        for (int rows : NO_CRANKING) {
            due("crank by " + rows, x.crank(rows, 1), INVALID);
        }

        says("6: 1 to 3");
        for (int speed = 1; speed <= 3; speed++) {
            due("at " + speed, x.crank(1, speed), speed);
        }
        for (int speed : NO_SPEED) {
            due("at " + speed, x.crank(1, speed), INVALID);
        }

        says("6: Returns the row that is shown then; INVALID_ARGUMENT if an argument is out of range; NOT_POSSIBLE without rows.");
        due("the row shown", x.count(1), 3);
        due("on a new object", new HandBlinds().crank(1, 1), IMPOSSIBLE);
        HandBlinds empty = blind("A");
        empty.cut(0);
        due("with all rows out", empty.crank(-20, 3), IMPOSSIBLE);
        due("no state for it", empty.count(11), 2);
    }

    // ---- routes

    private static void route() {
        says("7: a set of rows that there are, at least one");
        HandBlinds x = blind("A/B/C");
        due("no rows", x.route(0), INVALID);
        due("the row behind the last", x.route(0b1000), INVALID);
        due("it with all others", x.route(0b1111), INVALID);
        due("a row far behind", x.route(1 << 30), INVALID);
        due("below 0", x.route(-1), INVALID);
        due("bit 31 alone", x.route(LEAST_INT), INVALID);
        due("all bits but the last", x.route(MOST_INT), INVALID);
        due("on a new object", new HandBlinds().route(1), INVALID);
        due("the last row", x.route(0b100), 0);
        due("the first row", x.route(0b001), 1);
        due("all rows", x.route(0b111), 2);
        HandBlinds full = blind(Sentences.TWENTY);
        due("all of twenty", full.route((1 << 20) - 1), 0);
        due("one more than twenty", full.route((1 << 21) - 1), INVALID);

        says("7: Returns its number; INVALID_ARGUMENT if there is no such set; LIMIT_REACHED if there are 6.");
        due("the same set again", x.route(0b111), 3);
        due("the fifth", x.route(0b010), 4);
        due("the sixth", x.route(0b011), 5);
        due("the seventh", x.route(0b001), LIMIT);
        due("a bad seventh", x.route(0b1000), INVALID);
        due("six", x.count(2), 6);
        x.undo();
        due("a sixth again", x.route(0b101), 5);
        due("its rows", x.routeOf(5, 0), 0b101);
    }

    private static void drive() {
        says("8: number of the route, or -1");
        HandBlinds x = blind("A");
        due("no route is there", x.drive(0), INVALID);
        due("none", x.drive(-1), -1);
        x.route(1);
        due("the one behind the last", x.drive(1), INVALID);
        due("-2", x.drive(-2), INVALID);
        due("the least number", x.drive(LEAST_INT), INVALID);
        due("the greatest number", x.drive(MOST_INT), INVALID);
        for (int i = 1; i < 6; i++) {
            x.route(1);
        }
        due("the sixth", x.drive(5), -1);
        due("the seventh", x.drive(6), INVALID);

        says("8: Returns the route ahead of that, -1 for none; INVALID_ARGUMENT.");
        due("after the sixth", x.drive(0), 5);
        due("the same again", x.drive(0), 0);
        due("none after it", x.drive(-1), 0);
        due("none after none", x.drive(-1), -1);
    }

    private static void stop() {
        says("9: Returns by what the name that is shown is wrong, 0 to 5.");
        HandBlinds x = new HandBlinds();
        due("no name", x.stop(), 1);
        Sentences.addNames(x, "DEPOT/A");
        due("right", x.stop(), 0);
        x.set(0, 8);
        due("squeezed", x.stop(), 5);
        x.crank(1, 1);
        due("no route", x.stop(), 3);
        x.route(0b01);
        x.drive(0);
        due("another route", x.stop(), 4);
        Sentences.addNames(x, "B");
        Sentences.tearShown(x);
        due("torn", x.stop(), 2);
        due("a wrong stop is a change", x.count(11), 4);
    }

    private static void set() {
        says("10: 0 to 2");
        HandBlinds x = new HandBlinds();
        int[] noSettings = {-1, 3, 4, 20, LEAST_INT, MOST_INT};
        for (int what : noSettings) {
            due("set of " + what, x.set(what, 10), INVALID);
        }
        due("nothing is set", x.count(11), 0);

        says("10: Returns what it was; INVALID_ARGUMENT if an argument is out of range.");
        due("the width", x.set(0, 60), 24);
        due("the width again", x.set(0, 4), 60);
        due("the strength", x.set(1, 200), 30);
        due("the strength again", x.set(1, 1), 200);
        due("the sight", x.set(2, 50), 10);
        due("the sight again", x.set(2, 1), 50);
        due("the width to a value of the strength", x.set(0, 61), INVALID);
        due("the width to a value of the others", x.set(0, 3), INVALID);
        due("the sight to a value of the width", x.set(2, 51), INVALID);
        due("the others stay", x.count(20), 4);
    }

    // ---- what there is

    private static void rowOf() {
        says("11: 0: the length of its name; 1: the width; 2: by how much percent it is squeezed; 3: the kind;");
        HandBlinds x = blind("I/ABCDEFGHIJKLMN/PRIVATE");
        int[][] wants = {{1, 1, 100, 4}, {14, 28, 116, 0}, {7, 13, 100, 3}};
        for (int row = 0; row < 3; row++) {
            for (int what = 0; what < 4; what++) {
                due("rowOf(" + row + ", " + what + ")", x.rowOf(row, what), wants[row][what]);
            }
        }

        says("11: 6: the routes to which it belongs, as a set;");
        due("no route", x.rowOf(0, 6), 0);
        x.route(0b001);
        x.route(0b110);
        x.route(0b101);
        x.route(0b100);
        x.route(0b100);
        x.route(0b101);
        due("routes of the row 0", x.rowOf(0, 6), 0b100101);
        due("routes of the row 1", x.rowOf(1, 6), 0b000010);
        due("routes of the row 2", x.rowOf(2, 6), 0b111110);

        says("11: Returns the number; INVALID_ARGUMENT if an argument is out of range.");
        due("what -1", x.rowOf(0, -1), INVALID);
        due("what 8", x.rowOf(0, 8), INVALID);
        due("the row behind the last", x.rowOf(3, 0), INVALID);
        due("the row -1", x.rowOf(-1, 0), INVALID);
        due("both wrong", x.rowOf(3, 8), INVALID);
        due("the greatest numbers", x.rowOf(MOST_INT, MOST_INT), INVALID);
        due("the least numbers", x.rowOf(LEAST_INT, LEAST_INT), INVALID);
        due("on a new object", new HandBlinds().rowOf(0, 0), INVALID);
    }

    private static void rowOfTears() {
        says("11: 4: the wear; 5: 1 if it is torn, otherwise 0;");
        HandBlinds x = blind("A/B/C");
        due("no wear", x.rowOf(0, 4), 0);
        due("no tear", x.rowOf(0, 5), 0);
        x.set(1, 2);
        x.crank(1, 2);
        due("wear at the strength", x.rowOf(0, 4), 2);
        due("no tear at the strength", x.rowOf(0, 5), 0);
        x.crank(1, 3);
        due("wear above the strength", x.rowOf(1, 4), 3);
        due("a tear above the strength", x.rowOf(1, 5), 1);

        says("11: 7: 1 if it is shown, otherwise 0");
        for (int row = 0; row < 3; row++) {
            due("shown " + row, x.rowOf(row, 7), row == 2 ? 1 : 0);
        }
    }

    private static void letter() {
        says("12: 0 for the first one, and so on");
        HandBlinds x = blind("ABCDEFGHIJKLMN/Z Y");
        for (int i = 0; i < 14; i++) {
            due("letter " + i, x.letter(0, i), 'A' + i);
        }
        due("a blank", x.letter(1, 1), ' ');

        says("12: Returns the character; INVALID_ARGUMENT if there is no such row or index is below 0; NOT_FOUND if there are not so many.");
        due("the fifteenth of fourteen", x.letter(0, 14), MISSING);
        due("the fourth of three", x.letter(1, 3), MISSING);
        due("the greatest index", x.letter(1, MOST_INT), MISSING);
        due("the index -1", x.letter(0, -1), INVALID);
        due("the least index", x.letter(0, LEAST_INT), INVALID);
        due("the row behind the last", x.letter(2, 0), INVALID);
        due("the row -1", x.letter(-1, 0), INVALID);
        due("no such row and not so many", x.letter(2, 14), INVALID);
        due("on a new object", new HandBlinds().letter(0, 0), INVALID);
        HandBlinds y = blind("ABCDEFGHIJKLMN");
        y.cut(0);
        Sentences.addNames(y, "Q");
        due("nothing is left of a longer name", y.letter(0, 1), MISSING);
    }

    private static void routeOf() {
        says("13: 0: its rows, as a set; 1: how many; 2: of these that are torn, as a set;");
        HandBlinds x = blind("A/B/C/D");
        x.route(0b1111);
        x.route(0b0110);
        x.route(0b1000);
        x.set(1, 1);
        x.crank(1, 2);
        x.crank(2, 1);
        due("all rows", x.routeOf(0, 0), 0b1111);
        due("how many of all", x.routeOf(0, 1), 4);
        due("torn of all", x.routeOf(0, 2), 0b0001);
        due("torn of others", x.routeOf(1, 2), 0);
        due("how many of others", x.routeOf(1, 1), 2);
        x.mend(0);
        due("none is torn", x.routeOf(0, 2), 0);
        x.cut(3);
        due("without rows", x.routeOf(2, 0), 0);
        due("how many without rows", x.routeOf(2, 1), 0);
        due("torn without rows", x.routeOf(2, 2), 0);

        says("13: 3: stops on it so far; 4: of these with a right name");
        stopsOfRoutes();

        says("13: Returns the number; INVALID_ARGUMENT if an argument is out of range.");
        due("what -1", x.routeOf(0, -1), INVALID);
        due("what 5", x.routeOf(0, 5), INVALID);
        due("the route behind the last", x.routeOf(3, 0), INVALID);
        due("the route -1", x.routeOf(-1, 0), INVALID);
        due("both wrong", x.routeOf(3, 5), INVALID);
        due("the greatest numbers", x.routeOf(MOST_INT, MOST_INT), INVALID);
        due("the least numbers", x.routeOf(LEAST_INT, LEAST_INT), INVALID);
        due("without routes", blind("A").routeOf(0, 0), INVALID);
    }

    private static void stopsOfRoutes() {
        HandBlinds x = blind("A/B");
        x.route(0b01);
        x.route(0b10);
        x.stop();
        x.drive(0);
        x.stop();
        x.crank(1, 1);
        x.stop();
        x.stop();
        x.drive(1);
        x.stop();
        x.drive(-1);
        x.stop();
        due("stops on the first", x.routeOf(0, 3), 3);
        due("right ones on the first", x.routeOf(0, 4), 1);
        due("stops on the second", x.routeOf(1, 3), 1);
        due("right ones on the second", x.routeOf(1, 4), 1);
        due("stops on any and none", x.count(7), 6);
        due("right ones on any and none", x.count(8), 2);
    }

    // ---- what would be

    private static void dueWould(HandBlinds x, int rows, int speed, int... wants) {
        for (int what = 0; what < 4; what++) {
            due("would(" + rows + ", " + speed + ", " + what + ")", x.would(rows, speed, what), wants[what]);
        }
    }

    private static void would() {
        says("14: 0: the row that would be shown; 1: how many rows would tear; 2: by how many rows it would go on;");
        HandBlinds x = blind(Sentences.TWENTY);
        x.set(1, 2);
        dueWould(x, 20, 2, 19, 0, 19, 1);
        dueWould(x, 20, 3, 19, 10, 19, 1);
        dueWould(x, 1, 3, 1, 1, 1, 0);
        dueWould(x, 2, 3, 2, 1, 2, 0);
        dueWould(x, 3, 3, 3, 2, 3, 0);
        x.set(1, 1);
        dueWould(x, 20, 1, 19, 0, 19, 1);
        dueWould(x, 20, 2, 19, 19, 19, 1);
        due("nothing wears by it", x.rowOf(0, 4), 0);
        due("nothing is passed by it", x.count(6), 0);
        due("it is no change", x.count(11), 3);
        x.crank(20, 1);
        dueWould(x, -20, 1, 0, 18, 19, 1);
        HandBlinds torn = blind("A/B");
        Sentences.tearShown(torn);
        torn.set(1, 1);
        dueWould(torn, 1, 3, 1, 0, 1, 0);

        says("14: Returns the number; INVALID_ARGUMENT if an argument is out of range; NOT_POSSIBLE without rows.");
        for (int rows : NO_CRANKING) {
            due("would by " + rows, x.would(rows, 1, 0), INVALID);
        }
        for (int speed : NO_SPEED) {
            due("would at " + speed, x.would(1, speed, 0), INVALID);
        }
        for (int what : new int[] {-1, 4, LEAST_INT, MOST_INT}) {
            due("would of " + what, x.would(1, 1, what), INVALID);
        }
        for (int what = 0; what < 4; what++) {
            due("without rows " + what, new HandBlinds().would(1, 1, what), IMPOSSIBLE);
        }
        due("of 4 without rows", new HandBlinds().would(1, 1, 4), INVALID);
    }

    private static void wouldEnd() {
        says("14: 3: why it would end: 0 by its rows, 1 by the end of the roll, 2 by a torn row (0 ahead of 1, 1 ahead of 2)");
        HandBlinds x = blind("A/B/C");
        due("by its rows ahead of the end", x.would(1, 1, 3), 0);
        due("by its rows just at the end", x.would(2, 1, 3), 0);
        due("by the end", x.would(3, 1, 3), 1);
        due("by the end at once", x.would(-1, 1, 3), 1);
        x.crank(1, 1);
        Sentences.tearShown(x);
        x.crank(1, 1);
        due("by its rows just at a torn row", x.would(-1, 1, 3), 0);
        due("by a torn row", x.would(-2, 1, 3), 2);
        dueWould(x, -20, 1, 1, 0, 1, 2);
        x.swap(0, 1);
        x.crank(-1, 1);
        due("by its rows at a torn row at the end", x.would(-1, 1, 3), 0);
        due("by the end, where a torn row is shown too", x.would(-2, 1, 3), 1);
        x.crank(-1, 1);
        due("by the end at once, from a torn row", x.would(-1, 1, 3), 1);
        due("the row it begins with does not end it", x.would(2, 1, 3), 0);
        HandBlinds one = blind("A");
        dueWould(one, 1, 3, 0, 0, 0, 1);
        dueWould(one, -20, 1, 0, 0, 0, 1);
    }

    private static void dueNearest(String call, HandBlinds x, int row, int rows) {
        due(call + ", the row", x.nearest(0), row);
        due(call + ", by how many rows", x.nearest(1), rows);
    }

    private static void nearest() {
        says("15: Finds the nearest row that would be right at a stop");
        HandBlinds x = blind("DEPOT/B/C/D/E/F/G/H/I/J/K/L/M/N/O/P/Q/R/S/T");
        dueNearest("the shown row itself", x, 0, 0);
        x.swap(0, 19);
        dueNearest("the last row from the first one", x, 19, 19);
        x.crank(20, 1);
        x.swap(0, 19);
        dueNearest("the first row from the last one", x, 0, -19);
        x.route(1 << 5 | 1 << 18);
        x.drive(0);
        dueNearest("on a route", x, 18, -1);
        x.crank(-8, 1);
        dueNearest("the nearer of two, down", x, 5, -6);
        x.crank(1, 1);
        dueNearest("the nearer of two, up", x, 18, 6);
        HandBlinds squeezed = blind("A/DEPOT/SORR/B/C/SORRY");
        squeezed.crank(2, 1);
        dueNearest("wide enough", squeezed, 1, -1);
        squeezed.set(0, 8);
        dueNearest("all are squeezed", squeezed, MISSING, MISSING);
        HandBlinds torn = blind("DEPOT/A/SORRY");
        Sentences.tearShown(torn);
        dueNearest("not the torn one", torn, 2, 2);

        says("15: of two as near the one with the greater number.");
        HandBlinds two = blind("SORRY/A/B/C/SORRY");
        two.crank(2, 1);
        dueNearest("two as near", two, 4, 2);
        two.cut(4);
        dueNearest("one of these cut out", two, 0, -2);

        says("15: Returns the number; INVALID_ARGUMENT if what is out of range; NOT_FOUND if there is none.");
        for (int what : new int[] {-1, 2, LEAST_INT, MOST_INT}) {
            due("nearest of " + what, two.nearest(what), INVALID);
            due("nearest of " + what + " without rows", new HandBlinds().nearest(what), INVALID);
        }
        dueNearest("none is right", blind("A/B"), MISSING, MISSING);
        dueNearest("without rows", new HandBlinds(), MISSING, MISSING);
    }

    private static void alike() {
        says("16: Tells with how many characters two names begin alike.");
        HandBlinds x = blind("ABCDEFGHIJKLMN/ABCDEFGHIJKLMN/ABCDEFGHIJKLMO/A/B BA/B BB/B AB");
        due("all fourteen", x.alike(0, 1), 14);
        due("all but the last", x.alike(0, 2), 13);
        due("all of the shorter one", x.alike(3, 0), 1);
        due("all of the shorter one the other way", x.alike(0, 3), 1);
        due("none", x.alike(0, 4), 0);
        due("over a blank", x.alike(4, 5), 3);
        due("up to a blank", x.alike(4, 6), 2);
        due("a row with itself", x.alike(0, 0), 14);
        HandBlinds again = blind("NORTH END/NORTH END");
        again.cut(0);
        Sentences.addNames(again, "NORTH");
        due("a shorter name where a longer one was", again.alike(0, 1), 5);
        due("and the other way", again.alike(1, 0), 5);

        says("16: Returns how many; INVALID_ARGUMENT.");
        due("one behind the last", x.alike(7, 0), INVALID);
        due("other behind the last", x.alike(0, 7), INVALID);
        due("one below 0", x.alike(-1, 0), INVALID);
        due("other below 0", x.alike(0, -1), INVALID);
        due("both behind the last", x.alike(7, 7), INVALID);
        due("on a new object", new HandBlinds().alike(0, 0), INVALID);
    }

    private static void read() {
        says("17: 1 to 999");
        HandBlinds x = blind("A B");
        due("the least", x.read(1), 3);
        due("the greatest", x.read(999), 1);
        for (int distance : new int[] {0, 1000, -1, LEAST_INT, MOST_INT}) {
            due("read of " + distance, x.read(distance), INVALID);
        }

        says("17: Returns how many, 0 if it is torn; INVALID_ARGUMENT if distance is out of range; NOT_FOUND without rows.");
        Sentences.addNames(x, "C");
        Sentences.tearShown(x);
        due("torn, with letters near", x.read(1), 0);
        due("torn, with a blank", x.read(999), 0);
        due("torn, out of range", x.read(0), INVALID);
        x.mend(0);
        due("mended", x.read(20), 3);
        x.crank(1, 1);
        due("the name that is shown", x.read(20), 1);
        due("on a new object", new HandBlinds().read(1), MISSING);
        due("out of range on a new object", new HandBlinds().read(1000), INVALID);
        HandBlinds empty = blind("A");
        empty.cut(0);
        due("with all rows out", empty.read(999), MISSING);
    }

    private static void dueFind(HandBlinds x, String text, int row) {
        Sentences.write(x, text);
        due("find of '" + text + "'", x.find(), row);
    }

    private static void find() {
        says("18: Finds the first row that has the text as its name.");
        HandBlinds x = blind("AB/ABCDEFGHIJKLMN/AB/A B/Z");
        dueFind(x, "AB", 0);
        dueFind(x, "ABCDEFGHIJKLMN", 1);
        dueFind(x, "A B", 3);
        dueFind(x, "Z", 4);
        HandBlinds full = blind(Sentences.TWENTY);
        dueFind(full, "T", 19);
        dueFind(full, "A", 0);

        says("18: Returns the row; NOT_FOUND if there is none.");
        dueFind(x, "", MISSING);
        dueFind(x, "A", MISSING);
        dueFind(x, "ABC", MISSING);
        dueFind(x, "ab", MISSING);
        dueFind(x, "AB ", MISSING);
        dueFind(x, "AB/", MISSING);
        dueFind(x, "AB/ABCDEFGHIJKLMN", MISSING);
        dueFind(x, "ABCDEFGHIJKLMNO", MISSING);
        dueFind(x, "ABCDEFGHIJKLMO", MISSING);
        dueFind(new HandBlinds(), "A", MISSING);
        dueFind(new HandBlinds(), "", MISSING);
        x.cut(4);
        dueFind(x, "Z", MISSING);
    }

    private static void mean() {
        says("19: the widths together, as a float, divided by how many there are, as a float.");
        due("the least of all", blind("I").mean(), Float.floatToIntBits(1.0f));
        HandBlinds wide = new HandBlinds();
        wide.set(0, 60);
        Sentences.addNames(wide, "MMMMMMMMMMMMMM/MMMMMMMMMMMMMM");
        due("the greatest of all", wide.mean(), Float.floatToIntBits(42.0f));
        HandBlinds x = new HandBlinds();
        int sum = 0;
        for (int rows = 1; rows <= 20; rows++) {
            Sentences.addNames(x, rows % 3 == 0 ? "I" : rows % 3 == 1 ? "M" : "ABCDEFG");
            sum += rows % 3 == 0 ? 1 : rows % 3 == 1 ? 3 : 14;
            due("mean of " + rows, x.mean(), Float.floatToIntBits((float) sum / (float) rows));
        }
        x.set(0, 4);
        due("a squeeze is no part of it", x.mean(), Float.floatToIntBits((float) sum / 20.0f));

        says("19: Returns the bits of the float; NOT_FOUND without rows.");
        due("2.5", blind("A/M").mean(), 0x40200000);
        due("on a new object", new HandBlinds().mean(), MISSING);
        HandBlinds empty = blind("A");
        empty.cut(0);
        due("with all rows out", empty.mean(), MISSING);
    }

    private static void count() {
        says("20: 0: rows; 1: the row that is shown, NOT_FOUND without rows;");
        HandBlinds x = blind("A/B/C");
        due("rows", x.count(0), 3);
        due("shown", x.count(1), 0);
        HandBlinds empty = blind("A");
        empty.cut(0);
        due("no rows", empty.count(0), 0);
        due("none is shown", empty.count(1), MISSING);

        says("20: 2: routes; 3: the route on which the bus goes, NOT_FOUND for none;");
        due("no routes", x.count(2), 0);
        due("none", x.count(3), MISSING);
        x.route(0b1);
        x.drive(0);
        due("one route", x.count(2), 1);
        due("the first one", x.count(3), 0);

        says("20: 4: rows that are torn, as a set; 5: tears so far;");
        x.set(1, 1);
        x.crank(2, 2);
        due("two torn", x.count(4), 0b011);
        due("two tears", x.count(5), 2);
        x.mend(0);
        x.cut(1);
        due("none torn", x.count(4), 0);
        due("two tears still", x.count(5), 2);
        x.crank(-1, 1);
        x.crank(1, 2);
        due("a row tears again", x.count(5), 3);

        says("20: 6: rows that were passed so far;");
        HandBlinds y = blind("A/B/C/D/E");
        y.crank(-1, 1);
        due("none at the end", y.count(6), 0);
        y.crank(20, 3);
        due("skipped ones too", y.count(6), 4);
        y.crank(-1, 1);
        due("one more", y.count(6), 5);

        says("20: 7: stops so far; 8: of these with a right name;");
        y.stop();
        due("a stop", y.count(7), 1);
        due("not right", y.count(8), 0);
        y.route(1 << 3);
        y.drive(0);
        y.stop();
        due("two stops", y.count(7), 2);
        due("one right", y.count(8), 1);

        says("20: 9: by what the name that is shown would be wrong at a stop;");
        due("right", y.count(9), 0);
        due("this is no stop", y.count(7), 2);
        due("no name", empty.count(9), 1);
    }

    private static void countOfWidest() {
        says("20: 10: the widest name's row, of several the first one, NOT_FOUND without rows;");
        due("two as wide", blind("A/MM/II/ABC/C").count(10), 1);
        due("the first one", blind("M/A/W").count(10), 0);
        due("the last one", blind("A/B/M").count(10), 2);
        due("one row", blind("I").count(10), 0);
        due("without rows", new HandBlinds().count(10), MISSING);
        HandBlinds longer = blind("IIIII/MM");
        due("by the width, not by the length", longer.count(10), 1);
        HandBlinds wide = blind("A/B/M");
        wide.cut(2);
        due("the widest one cut out", wide.count(10), 0);
        HandBlinds full = blind(Sentences.TWENTY);
        due("the only M of twenty", full.count(10), 12);
        full.cut(12);
        Sentences.addNames(full, "W");
        due("the last one of twenty", full.count(10), 19);

        says("20: 11: states in the history; 12: the length of the text; 20 to 22: the settings 0 to 2");
        HandBlinds x = new HandBlinds();
        due("no states", x.count(11), 0);
        due("no text", x.count(12), 0);
        x.set(0, 4);
        x.set(1, 200);
        x.set(2, 50);
        x.type('?');
        due("three states", x.count(11), 3);
        due("a text of one", x.count(12), 1);
        due("setting 0", x.count(20), 4);
        due("setting 1", x.count(21), 200);
        due("setting 2", x.count(22), 50);

        says("20: Returns the number; INVALID_ARGUMENT if what is out of range.");
        for (int what = 13; what <= 19; what++) {
            due("count(" + what + ")", x.count(what), INVALID);
        }
        for (int what : new int[] {-1, 23, 24, LEAST_INT, MOST_INT}) {
            due("count(" + what + ")", x.count(what), INVALID);
        }
    }

    private static void undo() {
        says("21: Restores the latest state of the history, which is removed from it.");
        HandBlinds x = blind("A/B");
        String first = Sentences.picture(x);
        x.set(1, 1);
        String second = Sentences.picture(x);
        x.crank(1, 3);
        x.undo();
        Sentences.dueSame("the latest state", Sentences.picture(x), second);
        x.undo();
        Sentences.dueSame("the state ahead of it", Sentences.picture(x), first);
        x.undo();
        due("no rows", x.count(0), 0);
        due("undo is no change", x.count(11), 0);
        x.set(0, 30);
        due("a change after undo", x.count(11), 1);
        x.undo();
        due("undone", x.count(20), 24);

        says("21: Returns the number of states that are left in the history; NOT_POSSIBLE if it is empty.");
        due("on a new object", new HandBlinds().undo(), IMPOSSIBLE);
        for (int i = 0; i < 5; i++) {
            x.stop();
        }
        for (int left = 3; left >= 0; left--) {
            due("states left", x.undo(), left);
        }
        due("an empty history", x.undo(), IMPOSSIBLE);
        due("the oldest of five is dropped", x.count(7), 1);
    }

    // ---- texts

    private static void type() {
        says("22: 32 to 126");
        HandBlinds x = new HandBlinds();
        due("the least", x.type(32), 1);
        due("the greatest", x.type(126), 2);
        int[] noCharacters = {31, 127, 0, -1, 128, 255, 65536 + 'A', LEAST_INT, MOST_INT};
        for (int character : noCharacters) {
            due("type of " + character, x.type(character), INVALID);
        }
        due("nothing is appended", x.count(12), 2);

        says("22: Returns the length of the text; INVALID_ARGUMENT if character is out of range; LIMIT_REACHED if it has 60 characters.");
        for (int length = 3; length <= 60; length++) {
            due("length", x.type('A'), length);
        }
        due("a full text", x.type('A'), LIMIT);
        due("a wrong character in a full text", x.type(31), INVALID);
        due("sixty characters", x.count(12), 60);
    }

    private static void clearText() {
        says("23: Returns the length it had.");
        HandBlinds x = new HandBlinds();
        due("an empty text", x.clearText(), 0);
        x.type('A');
        due("one character", x.clearText(), 1);
        due("an empty text again", x.clearText(), 0);
        due("empty", x.count(12), 0);
        for (int i = 0; i < 60; i++) {
            x.type('/');
        }
        due("a full text", x.clearText(), 60);
        due("no character is left", x.type('B'), 1);
        x.add();
        due("the name", x.letter(0, 0), 'B');
    }

    private static void fault() {
        says("24: 0: its position; 1: its reason; 2: its cause");
        HandBlinds x = new HandBlinds();
        Sentences.dueFault(x, "A/B  C", 2, 1, 2);
        Sentences.dueFault(x, "AB/MMMMMMMMMMMMM", 3, 2, 162);
        Sentences.dueFault(x, Sentences.TWENTY + "/ABCDE", 40, 3, 5);

        says("24: Returns that; INVALID_ARGUMENT if what is out of range; NOT_FOUND if the text has no fault.");
        for (int what : new int[] {-1, 3, LEAST_INT, MOST_INT}) {
            due("fault(" + what + ") with a fault", x.fault(what), INVALID);
        }
        Sentences.write(x, "A/B C");
        for (int what = 0; what < 3; what++) {
            due("fault(" + what + ") without a fault", x.fault(what), MISSING);
        }
        due("fault(3) without a fault", x.fault(3), INVALID);
        due("fault(-1) without a fault", x.fault(-1), INVALID);
    }
}
