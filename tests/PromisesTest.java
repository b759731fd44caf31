import java.util.List;
import java.util.function.ToIntFunction;

/** For each promise of the document: ordinary inputs, the edges that it names, and wrong inputs. */
public final class PromisesTest {
    private static final int INVALID = HandBlinds.INVALID_ARGUMENT;
    private static final int IMPOSSIBLE = HandBlinds.NOT_POSSIBLE;
    private static final int LIMIT = HandBlinds.LIMIT_REACHED;
    private static final int MISSING = HandBlinds.NOT_FOUND;
    private static final int[] WILD = {Integer.MIN_VALUE, Integer.MIN_VALUE + 1, -1000, -33, -32, -21, -2, -1, 0, 1, 2,
        5, 19, 20, 21, 31, 32, 33, 1000, 1 << 20, 1 << 30, Integer.MAX_VALUE};

    private static int wrong = 0;
    private static String part = "";

    public static void main(String[] arguments) {
        newObject();
        add();
        cut();
        swap();
        mend();
        crank();
        crankAtSpeedThree();
        route();
        drive();
        stop();
        set();
        rowOf();
        letter();
        routeOf();
        would();
        nearest();
        alike();
        read();
        find();
        mean();
        count();
        undo();
        undoBringsBackAll();
        undoOfRightStops();
        fullRollWithAllRoutes();
        errorsChangeNothing();
        type();
        clearText();
        faultOfForm();
        faultOfWidthAndRoll();
        System.out.println(wrong == 0 ? "all promises hold" : wrong + " answers are not as due");
        if (wrong != 0) {
            System.exit(1);
        }
    }

    private static void due(String call, long got, long want) {
        if (got != want) {
            wrong++;
            System.out.println(part + ": " + call + " answered " + got + ", due is " + want);
        }
    }

    private static void write(HandBlinds x, String text) {
        x.clearText();
        for (int i = 0; i < text.length(); i++) {
            x.type(text.charAt(i));
        }
    }

    private static HandBlinds roll(String names) {
        HandBlinds x = new HandBlinds();
        write(x, names);
        x.add();
        return x;
    }

    private static HandBlinds fullRoll() {
        HandBlinds x = roll("A/B/C/D/E/F/G/H/I/J");
        x.add();
        return x;
    }

    private static void newObject() {
        part = "1 a new object";
        HandBlinds x = new HandBlinds();
        due("rows", x.count(0), 0);
        due("shown", x.count(1), MISSING);
        due("routes", x.count(2), 0);
        due("route driven", x.count(3), MISSING);
        for (int what = 4; what <= 8; what++) {
            due("count " + what, x.count(what), 0);
        }
        due("wrong by no name", x.count(9), 1);
        due("widest", x.count(10), MISSING);
        due("states", x.count(11), 0);
        due("text", x.count(12), 0);
        due("width", x.count(20), 24);
        due("strength", x.count(21), 30);
        due("sight", x.count(22), 10);
        HandBlinds other = roll("A");
        due("one object does not see another", x.count(0), 0);
        due("the other", other.count(0), 1);
    }

    private static void add() {
        part = "2 add";
        HandBlinds x = new HandBlinds();
        due("empty text", x.add(), IMPOSSIBLE);
        due("no state for an error", x.count(11), 0);
        write(x, "AB/C D/E");
        due("names of the text", x.add(), 3);
        due("rows", x.count(0), 3);
        due("the text stays", x.count(12), 8);
        due("first name shown", x.count(1), 0);
        due("blank in a name", x.letter(1, 1), ' ');
        due("last name", x.letter(2, 0), 'E');
        due("names of the text again", x.add(), 3);
        due("rows again", x.count(0), 6);
        due("at the end", x.letter(4, 2), 'D');
        due("shown still", x.count(1), 0);
        due("wear", x.rowOf(3, 4), 0);
        due("tear", x.rowOf(3, 5), 0);
        write(x, "AB/c");
        due("one bad name", x.add(), IMPOSSIBLE);
        due("nothing added of a bad text", x.count(0), 6);
        write(x, "ABCDEFGHIJKLIN");
        due("fourteen letters", x.add(), 1);
        due("fourteen letters' length", x.rowOf(6, 0), 14);
        write(x, "A/B/C/D/E/F/G/H/I/J/K/L/M/N");
        due("more than twenty rows", x.add(), IMPOSSIBLE);
        due("none added of too many", x.count(0), 7);
        write(x, "A/B/C/D/E/F/G/H/I/J/K/L/M");
        due("just twenty rows", x.add(), 13);
        due("rows of a full roll", x.count(0), 20);
        due("last of a full roll", x.letter(19, 0), 'M');
        write(x, "A");
        due("one above twenty", x.add(), IMPOSSIBLE);
        addAfterWear();
    }

    private static void addAfterWear() {
        HandBlinds x = roll("A/B");
        x.set(1, 1);
        x.crank(1, 2);
        x.cut(0);
        x.cut(0);
        due("roll is empty", x.count(1), MISSING);
        due("names after all were cut out", x.add(), 2);
        due("shown after all were cut out", x.count(1), 0);
        due("new rows have no wear", x.rowOf(0, 4) + x.rowOf(1, 4), 0);
        due("new rows have no tear", x.count(4), 0);
        due("new rows have their own length", x.rowOf(0, 0), 1);
        HandBlinds y = roll("NORTH/SOUTH");
        y.cut(0);
        write(y, "AB");
        y.add();
        due("a name in the place of a longer one", y.rowOf(1, 0), 2);
    }

    private static void cut() {
        part = "3 cut";
        HandBlinds x = roll("A/B/C/D");
        x.route(0b1011);
        x.route(0b0010);
        x.crank(2, 1);
        due("below 0", x.cut(-1), INVALID);
        due("behind the roll", x.cut(4), INVALID);
        due("far behind the roll", x.cut(Integer.MAX_VALUE), INVALID);
        due("ahead of the shown one", x.cut(1), 1);
        due("the same name is shown", x.letter(x.count(1), 0), 'C');
        due("routes follow", x.routeOf(0, 0), 0b101);
        due("a route may be without rows", x.routeOf(1, 0), 0);
        due("the shown one, with one behind it", x.cut(1), 1);
        due("the one behind it is shown", x.letter(1, 0), 'D');
        due("a row of no route is cut out", x.routeOf(0, 0), 0b11);
        due("the shown one, the last of the roll", x.cut(1), 0);
        due("routes without it", x.routeOf(0, 0), 0b1);
        due("the last name of all", x.cut(0), -1);
        due("no row is left", x.count(0), 0);
        due("no row to cut", x.cut(0), INVALID);
        HandBlinds y = roll("A/B/C");
        y.crank(1, 3);
        due("behind the shown one", y.cut(2), 1);
        due("wear stays with its name", y.rowOf(0, 4), 3);
        y.cut(0);
        due("wear moves with its name", y.rowOf(0, 4), 0);
        HandBlinds z = fullRoll();
        z.route((1 << 20) - 1);
        z.cut(19);
        due("the last of twenty", z.routeOf(0, 0), (1 << 19) - 1);
        z.cut(0);
        due("the first of nineteen", z.routeOf(0, 0), (1 << 18) - 1);
    }

    private static void swap() {
        part = "4 swap";
        HandBlinds x = roll("A/BB/C");
        x.set(1, 1);
        x.route(0b001);
        x.route(0b011);
        x.route(0b100);
        x.crank(1, 2);
        due("the place shown", x.swap(0, 1), 1);
        due("names", x.letter(1, 0), 'A');
        due("names the other way", x.rowOf(0, 0), 2);
        due("wear", x.rowOf(1, 4), 2);
        due("wear the other way", x.rowOf(0, 4), 0);
        due("tears", x.count(4), 0b10);
        due("a route with one of them", x.routeOf(0, 0), 0b10);
        due("a route with both", x.routeOf(1, 0), 0b11);
        due("a route with none", x.routeOf(2, 0), 0b100);
        due("backwards", x.swap(2, 0), 1);
        due("a route with the other", x.routeOf(2, 0), 0b001);
        due("both the same", x.swap(1, 1), INVALID);
        due("one below 0", x.swap(-1, 1), INVALID);
        due("other below 0", x.swap(1, -1), INVALID);
        due("one too great", x.swap(3, 1), INVALID);
        due("other too great", x.swap(1, 3), INVALID);
    }

    private static void mend() {
        part = "5 mend";
        HandBlinds x = roll("A/B/C");
        x.set(1, 2);
        due("not torn", x.mend(0), IMPOSSIBLE);
        due("below 0", x.mend(-1), INVALID);
        due("too great", x.mend(3), INVALID);
        x.crank(1, 3);
        due("half, rounded down", x.mend(0), 1);
        due("wear then", x.rowOf(0, 4), 1);
        due("not torn then", x.rowOf(0, 5), 0);
        due("not twice", x.mend(0), IMPOSSIBLE);
        x.crank(-1, 3);
        x.crank(1, 2);
        due("tears again", x.count(4), 0b11);
        due("tears of both rows", x.count(5), 3);
        due("half of three", x.mend(0), 1);
        x.crank(-1, 3);
        x.crank(1, 3);
        x.crank(-1, 1);
        x.crank(1, 3);
        due("wear of a torn one", x.rowOf(0, 4), 7);
        due("half of seven", x.mend(0), 3);
    }

    private static void crank() {
        part = "6 crank";
        HandBlinds empty = new HandBlinds();
        due("no rows", empty.crank(1, 1), IMPOSSIBLE);
        due("a wrong argument goes ahead", empty.crank(0, 1), INVALID);
        HandBlinds x = roll("A/B/C/D/E");
        due("by 0", x.crank(0, 1), INVALID);
        due("too far up", x.crank(21, 1), INVALID);
        due("too far down", x.crank(-21, 1), INVALID);
        due("too slow", x.crank(1, 0), INVALID);
        due("too fast", x.crank(1, 4), INVALID);
        due("least number", x.crank(Integer.MIN_VALUE, 1), INVALID);
        due("down at the beginning", x.crank(-20, 1), 0);
        due("this passes none", x.count(6), 0);
        due("this is a change all the same", x.count(11), 2);
        due("up", x.crank(2, 2), 2);
        due("wear of the first one", x.rowOf(0, 4), 2);
        due("wear of the second one", x.rowOf(1, 4), 2);
        due("no wear of the shown one", x.rowOf(2, 4), 0);
        due("to the end", x.crank(20, 1), 4);
        due("passed", x.count(6), 4);
        due("down", x.crank(-3, 1), 1);
        due("wear of both ways", x.rowOf(2, 4), 2);
        due("passed both ways", x.count(6), 7);
        crankTornRows();
    }

    private static void crankTornRows() {
        HandBlinds x = roll("A/B/C/D/E");
        x.set(1, 2);
        x.crank(1, 2);
        due("wear at the strength does not tear", x.count(4), 0);
        x.crank(-1, 3);
        due("wear above the strength tears", x.count(4), 0b10);
        due("on to the torn one", x.crank(3, 1), 1);
        due("the left one tears", x.count(4), 0b11);
        due("the held one is shown", x.count(1), 1);
        due("the row it began with does not hold it", x.crank(3, 1), 4);
        due("a torn one wears too", x.rowOf(1, 4), 4);
        due("a torn one does not tear again", x.count(5), 2);
        due("held down the numbers", x.crank(-9, 1), 1);
        due("from one torn row to the next one", x.crank(-9, 1), 0);
        x.set(1, 200);
        x.set(1, 1);
        due("a smaller strength alone tears none", x.count(4), 0b11);
    }

    private static void crankAtSpeedThree() {
        part = "6 crank at speed 3";
        HandBlinds x = roll("A/B/C/D/E/F");
        x.set(1, 2);
        due("to the end", x.crank(5, 3), 5);
        due("each second one is skipped", x.count(4), 0b010101);
        due("no wear of the skipped", x.rowOf(1, 4) + x.rowOf(3, 4), 0);
        due("skipped ones are passed", x.count(6), 5);
        due("a skipped torn one holds too", x.crank(-5, 3), 4);
        due("the first one left wears", x.rowOf(5, 4), 3);
        HandBlinds y = roll("A/B/C/D");
        y.crank(3, 3);
        y.crank(-3, 3);
        due("counted from where it began", y.rowOf(3, 4), 3);
        due("first way alone", y.rowOf(2, 4), 3);
        due("second way alone", y.rowOf(1, 4), 3);
        due("not passed on the way back", y.rowOf(0, 4), 3);
        HandBlinds z = roll("A/B/C/D");
        z.crank(3, 2);
        due("no row is skipped at speed 2", z.rowOf(1, 4), 2);
        HandBlinds torn = roll("A/B/C/D");
        torn.set(1, 1);
        torn.crank(2, 1);
        torn.crank(-1, 2);
        due("third row torn", torn.count(4), 0b100);
        torn.mend(2);
        torn.crank(-1, 2);
        due("second row torn", torn.count(4), 0b010);
        due("held at the second row", torn.crank(3, 3), 1);
        due("a held one is not left", torn.rowOf(1, 4), 3);
    }

    private static void route() {
        part = "7 route";
        HandBlinds x = new HandBlinds();
        due("no rows", x.route(1), INVALID);
        write(x, "A/B/C");
        x.add();
        due("no row in the set", x.route(0), INVALID);
        due("below 0", x.route(-1), INVALID);
        due("least number", x.route(Integer.MIN_VALUE), INVALID);
        due("a row that there is not", x.route(8), INVALID);
        due("a row that there is not, with one that there is", x.route(9), INVALID);
        due("all", x.route(7), 0);
        for (int i = 1; i < 6; i++) {
            due("number", x.route(1 + i % 3), i);
        }
        due("a seventh", x.route(1), LIMIT);
        due("a wrong seventh", x.route(8), INVALID);
        due("routes", x.count(2), 6);
        due("rows of the last", x.routeOf(5, 0), 3);
        x.undo();
        due("a seventh is not recorded", x.count(2), 5);
        HandBlinds full = fullRoll();
        due("twenty rows", full.route((1 << 20) - 1), 0);
        due("twenty-one rows", full.route((1 << 21) - 1), INVALID);
    }

    private static void drive() {
        part = "8 drive";
        HandBlinds x = roll("A/B");
        due("no route", x.drive(0), INVALID);
        due("none after none", x.drive(-1), -1);
        x.route(1);
        x.route(2);
        due("first", x.drive(1), -1);
        due("which one", x.count(3), 1);
        due("second", x.drive(0), 1);
        due("none", x.drive(-1), 0);
        due("none there", x.count(3), MISSING);
        due("too great", x.drive(2), INVALID);
        due("below -1", x.drive(-2), INVALID);
    }

    private static void stop() {
        part = "9 stop";
        HandBlinds x = new HandBlinds();
        due("no name", x.stop(), 1);
        write(x, "A/DEPOT/SORRY/PRIVATE/NORTH/MMMMMMMM");
        x.add();
        int[] withoutRoute = {3, 0, 0, 3, 3, 3};
        stopEverywhere(x, "without a route", withoutRoute);
        x.route(0b010000);
        x.drive(0);
        int[] onRoute = {4, 4, 0, 4, 0, 4};
        stopEverywhere(x, "on a route", onRoute);
        due("stops on the route", x.routeOf(0, 3), 6);
        due("right stops on the route", x.routeOf(0, 4), 2);
        x.set(0, 8);
        int[] narrow = {4, 4, 5, 4, 5, 4};
        stopEverywhere(x, "on a narrow blind", narrow);
        due("stops", x.count(7), 19);
        due("right stops", x.count(8), 4);
        stopWhenTorn();
        stopWhenSqueezed();
    }

    private static void stopEverywhere(HandBlinds x, String call, int[] want) {
        x.crank(-20, 1);
        for (int i = 0; i < want.length; i++) {
            due(call + ", asked ahead, row " + i, x.count(9), want[i]);
            due(call + ", row " + i, x.stop(), want[i]);
            x.crank(1, 1);
        }
    }

    private static void stopWhenTorn() {
        HandBlinds x = roll("DEPOT/A");
        x.set(1, 1);
        x.crank(1, 2);
        x.crank(-1, 1);
        due("torn", x.stop(), 2);
        x.mend(0);
        due("mended", x.stop(), 0);
        x.route(1);
        x.drive(0);
        due("on its route", x.stop(), 0);
        x.drive(-1);
        due("off the route", x.stop(), 0);
        due("stops on the route are these alone", x.routeOf(0, 3), 1);
        x.drive(0);
        x.cut(0);
        due("a route without rows", x.stop(), 4);
    }

    private static void stopWhenSqueezed() {
        HandBlinds x = roll("MMMMMMMM");
        x.route(1);
        x.drive(0);
        x.set(0, 20);
        due("120 percent", x.rowOf(0, 2), 120);
        due("120 percent is right", x.stop(), 0);
        x.set(0, 19);
        due("126 percent is not", x.stop(), 5);
    }

    private static void set() {
        part = "10 set";
        HandBlinds x = new HandBlinds();
        int[] least = {4, 1, 1};
        int[] most = {60, 200, 50};
        int[] first = {24, 30, 10};
        for (int what = 0; what < 3; what++) {
            due("first value of " + what, x.set(what, least[what]), first[what]);
            due("least value of " + what, x.set(what, most[what]), least[what]);
            due("below the least of " + what, x.set(what, least[what] - 1), INVALID);
            due("above the most of " + what, x.set(what, most[what] + 1), INVALID);
            due("an error changes nothing of " + what, x.count(20 + what), most[what]);
            due("the same value is a change", x.set(what, most[what]), most[what]);
        }
        due("states", x.count(11), 4);
        due("what below 0", x.set(-1, 4), INVALID);
        due("what above 2", x.set(3, 4), INVALID);
    }

    private static void rowOf() {
        part = "11 rowOf";
        HandBlinds x = roll("MI W/DEPOT/SORRY/PRIVATE/Z/DEPOTS/SORR/MMMMMMMMM");
        int[] lengths = {4, 5, 5, 7, 1, 6, 4, 9};
        int[] widths = {8, 10, 10, 13, 2, 12, 8, 27};
        int[] kinds = {0, 1, 2, 3, 4, 0, 0, 0};
        int[] squeezed = {100, 100, 100, 100, 100, 100, 100, 112};
        for (int row = 0; row < 8; row++) {
            due("length of " + row, x.rowOf(row, 0), lengths[row]);
            due("width of " + row, x.rowOf(row, 1), widths[row]);
            due("squeezed " + row, x.rowOf(row, 2), squeezed[row]);
            due("kind of " + row, x.rowOf(row, 3), kinds[row]);
            due("shown " + row, x.rowOf(row, 7), row == 0 ? 1 : 0);
        }
        x.set(0, 8);
        due("as wide as the blind", x.rowOf(0, 2), 100);
        due("wider", x.rowOf(1, 2), 125);
        due("more than 150 percent later", x.rowOf(7, 2), 337);
        x.route(0b11);
        x.route(0b10);
        due("routes of 0", x.rowOf(0, 6), 0b01);
        due("routes of 1", x.rowOf(1, 6), 0b11);
        due("routes of 2", x.rowOf(2, 6), 0);
        x.set(1, 3);
        x.crank(1, 2);
        x.crank(-1, 1);
        x.crank(1, 2);
        due("wear", x.rowOf(0, 4), 4);
        due("torn", x.rowOf(0, 5), 1);
        due("not torn", x.rowOf(1, 5), 0);
        due("shown later", x.rowOf(1, 7), 1);
        due("row below 0", x.rowOf(-1, 0), INVALID);
        due("row too great", x.rowOf(8, 0), INVALID);
        due("what below 0", x.rowOf(0, -1), INVALID);
        due("what too great", x.rowOf(0, 8), INVALID);
        due("no rows", new HandBlinds().rowOf(0, 0), INVALID);
        HandBlinds near = roll("TEPOT/DEPOS/DORRY/PRIVATI/XRIVATE/DEP T");
        for (int row = 0; row < 6; row++) {
            due("kind of a name near to one that means something, " + row, near.rowOf(row, 3), 0);
        }
        lettersAllHaveWidths();
    }

    private static void lettersAllHaveWidths() {
        for (char letter = 'A'; letter <= 'Z'; letter++) {
            int want = letter == 'I' ? 1 : letter == 'M' || letter == 'W' ? 3 : 2;
            due("width of " + letter, roll(String.valueOf(letter)).rowOf(0, 1), want);
        }
    }

    private static void letter() {
        part = "12 letter";
        HandBlinds x = roll("AB/Z X Y");
        due("first", x.letter(0, 0), 'A');
        due("last", x.letter(1, 4), 'Y');
        due("blank", x.letter(1, 3), ' ');
        due("not so many", x.letter(0, 2), MISSING);
        due("far from so many", x.letter(0, Integer.MAX_VALUE), MISSING);
        due("index below 0", x.letter(0, -1), INVALID);
        due("row below 0", x.letter(-1, 0), INVALID);
        due("row too great", x.letter(2, 0), INVALID);
        due("row too great, index too", x.letter(2, 99), INVALID);
        HandBlinds full = roll("ABCDEFGHIJKLMN");
        due("fourteenth", full.letter(0, 13), 'N');
        due("fifteenth", full.letter(0, 14), MISSING);
    }

    private static void routeOf() {
        part = "13 routeOf";
        HandBlinds x = roll("A/B/C/D");
        due("no route", x.routeOf(0, 0), INVALID);
        x.set(1, 1);
        x.route(0b0101);
        x.route(0b1110);
        due("rows", x.routeOf(0, 0), 0b0101);
        due("how many", x.routeOf(1, 1), 3);
        x.crank(2, 2);
        due("torn of the first", x.routeOf(0, 2), 0b0001);
        due("torn of the second", x.routeOf(1, 2), 0b0010);
        x.stop();
        due("stops off the route", x.routeOf(0, 3), 0);
        x.drive(0);
        x.stop();
        x.crank(1, 1);
        x.stop();
        due("stops on it", x.routeOf(0, 3), 2);
        due("right stops on it", x.routeOf(0, 4), 1);
        due("stops on the other", x.routeOf(1, 3), 0);
        due("what below 0", x.routeOf(0, -1), INVALID);
        due("what too great", x.routeOf(0, 5), INVALID);
        due("route below 0", x.routeOf(-1, 0), INVALID);
        due("route too great", x.routeOf(2, 0), INVALID);
    }

    private static void would() {
        part = "14 would";
        HandBlinds empty = new HandBlinds();
        due("no rows", empty.would(1, 1, 0), IMPOSSIBLE);
        due("a wrong what goes ahead", empty.would(1, 1, 4), INVALID);
        HandBlinds x = roll("A/B/C/D/E/F");
        x.set(1, 2);
        dueWould(x, 5, 3, new int[] {5, 3, 5, 0});
        dueWould(x, 6, 3, new int[] {5, 3, 5, 1});
        dueWould(x, -1, 1, new int[] {0, 0, 0, 1});
        dueWould(x, 2, 2, new int[] {2, 0, 2, 0});
        due("nothing is changed", x.count(6) + x.rowOf(0, 4) + x.count(1), 0);
        due("nothing is recorded", x.count(11), 2);
        x.crank(1, 1);
        x.crank(1, 3);
        x.crank(-1, 1);
        x.crank(-1, 1);
        due("the second one is torn", x.count(4), 0b10);
        dueWould(x, 1, 1, new int[] {1, 0, 1, 0});
        dueWould(x, 2, 2, new int[] {1, 1, 1, 2});
        x.crank(1, 1);
        dueWould(x, 20, 3, new int[] {5, 1, 4, 1});
        x.crank(1, 1);
        dueWould(x, -2, 1, new int[] {1, 0, 1, 2});
        tornEndOfRoll();
        due("by 0", x.would(0, 1, 0), INVALID);
        due("too far", x.would(21, 1, 0), INVALID);
        due("too far down", x.would(-21, 1, 0), INVALID);
        due("too slow", x.would(1, 0, 0), INVALID);
        due("too fast", x.would(1, 4, 0), INVALID);
        due("what below 0", x.would(1, 1, -1), INVALID);
        due("what too great", x.would(1, 1, 4), INVALID);
    }

    private static void tornEndOfRoll() {
        HandBlinds x = roll("A/B/C");
        x.set(1, 1);
        x.crank(1, 2);
        due("the end of the roll goes ahead of a torn row", x.would(-2, 1, 3), 1);
        due("its rows go ahead of both", x.would(-1, 1, 3), 0);
        due("a torn row it began with at the end", tornAtEnd().would(-3, 1, 3), 1);
    }

    private static HandBlinds tornAtEnd() {
        HandBlinds x = roll("A/B/C");
        x.set(1, 1);
        x.crank(1, 2);
        x.crank(-1, 1);
        return x;
    }

    private static void dueWould(HandBlinds x, int rows, int speed, int[] want) {
        for (int what = 0; what < 4; what++) {
            due("would(" + rows + ", " + speed + ", " + what + ")", x.would(rows, speed, what), want[what]);
        }
    }

    private static void nearest() {
        part = "15 nearest";
        HandBlinds x = roll("A/DEPOT/B/SORRY/C/D/DEPOT");
        due("from the beginning", x.nearest(0), 1);
        due("up the numbers", x.nearest(1), 1);
        x.crank(2, 1);
        due("of two as near the greater number", x.nearest(0), 3);
        due("by how many rows", x.nearest(1), 1);
        x.crank(1, 1);
        due("the shown one itself", x.nearest(0), 3);
        due("by no row", x.nearest(1), 0);
        x.crank(1, 1);
        due("down the numbers", x.nearest(0), 3);
        due("by rows below 0", x.nearest(1), -1);
        x.crank(1, 1);
        due("the nearer one up", x.nearest(1), 1);
        x.route(0b1);
        x.drive(0);
        due("on a route", x.nearest(0), 3);
        due("what below 0", x.nearest(-1), INVALID);
        due("what too great", x.nearest(2), INVALID);
        HandBlinds none = roll("A/B");
        due("none", none.nearest(0), MISSING);
        due("none by how many", none.nearest(1), MISSING);
        due("a wrong what goes ahead", none.nearest(2), INVALID);
        due("no rows", new HandBlinds().nearest(0), MISSING);
        nearestIsNotTorn();
    }

    private static void nearestIsNotTorn() {
        HandBlinds x = roll("DEPOT/A/B/C/DEPOT");
        x.set(1, 1);
        x.crank(1, 2);
        due("a torn one is not right", x.nearest(0), 4);
        x.mend(0);
        due("a mended one is", x.nearest(0), 0);
    }

    private static void alike() {
        part = "16 alike";
        HandBlinds x = roll("NORTH/NORTH END/NORD/A/NORTH");
        due("a whole name", x.alike(0, 1), 5);
        due("the other way", x.alike(1, 0), 5);
        due("some characters", x.alike(0, 2), 3);
        due("none", x.alike(0, 3), 0);
        due("the same name", x.alike(0, 4), 5);
        due("the same row", x.alike(1, 1), 9);
        due("one below 0", x.alike(-1, 0), INVALID);
        due("other below 0", x.alike(0, -1), INVALID);
        due("one too great", x.alike(5, 0), INVALID);
        due("other too great", x.alike(0, 5), INVALID);
    }

    private static void read() {
        part = "17 read";
        HandBlinds x = roll("MI ON/MMMMMMMMM");
        due("wide letters and the blank", x.read(21), 2);
        due("at the distance of a wide one", x.read(30), 2);
        due("behind it", x.read(31), 1);
        due("at the distance of the middle ones", x.read(20), 4);
        due("near", x.read(10), 5);
        due("nearest", x.read(1), 5);
        due("the blank from the farthest", x.read(999), 1);
        x.crank(1, 1);
        due("squeezed by 112 percent", x.read(26), 9);
        due("squeezed, behind", x.read(27), 0);
        x.set(2, 50);
        due("with a greater sight", x.read(133), 9);
        due("with a greater sight, behind", x.read(134), 0);
        x.set(1, 1);
        x.crank(-1, 2);
        x.crank(1, 1);
        due("torn", x.read(1), 0);
        due("too near", x.read(0), INVALID);
        due("too far", x.read(1000), INVALID);
        due("no rows", new HandBlinds().read(5), MISSING);
        due("a wrong distance goes ahead", new HandBlinds().read(0), INVALID);
    }

    private static void find() {
        part = "18 find";
        HandBlinds x = roll("AB/ABC/AB/A B");
        due("several names", x.find(), MISSING);
        write(x, "AB");
        due("the first of two", x.find(), 0);
        write(x, "ABC");
        due("longer", x.find(), 1);
        write(x, "A B");
        due("with a blank", x.find(), 3);
        write(x, "A");
        due("shorter", x.find(), MISSING);
        write(x, "BB");
        due("another first letter", x.find(), MISSING);
        write(x, "AB/");
        due("with a stroke", x.find(), MISSING);
        write(x, "");
        due("empty", x.find(), MISSING);
        due("no rows", new HandBlinds().find(), MISSING);
        write(x, "AB");
        x.cut(0);
        due("the second of two", x.find(), 1);
    }

    private static void mean() {
        part = "19 mean";
        due("no rows", new HandBlinds().mean(), MISSING);
        String[] names = {"I", "A", "M", "MMMM", "WWWWWWWWWWWW", "I/A", "A/A/M", "II/A/M/X/Y/Z W/DEPOT", "MM/ABC/I"};
        int[] sums = {1, 2, 3, 12, 36, 3, 7, 27, 13};
        int[] numbers = {1, 1, 1, 1, 1, 2, 3, 7, 3};
        for (int i = 0; i < names.length; i++) {
            due("mean of " + names[i], roll(names[i]).mean(), Float.floatToIntBits((float) sums[i] / (float) numbers[i]));
        }
        HandBlinds wide = new HandBlinds();
        wide.set(0, 60);
        write(wide, "MMMMMMMMMMMMMM");
        wide.add();
        due("the widest of all", wide.mean(), Float.floatToIntBits(42.0f));
    }

    private static void count() {
        part = "20 count";
        HandBlinds x = roll("AB/MM/ABC/C");
        x.set(1, 2);
        x.route(3);
        x.drive(0);
        x.crank(2, 3);
        x.crank(1, 1);
        x.crank(-2, 2);
        x.stop();
        due("rows", x.count(0), 4);
        due("shown", x.count(1), 1);
        due("routes", x.count(2), 1);
        due("route driven", x.count(3), 0);
        due("torn", x.count(4), 0b101);
        due("tears", x.count(5), 2);
        due("passed", x.count(6), 5);
        due("stops", x.count(7), 1);
        due("right stops", x.count(8), 1);
        due("wrong by", x.count(9), 0);
        due("first of the widest", x.count(10), 1);
        due("states", x.count(11), 4);
        due("text", x.count(12), 11);
        x.mend(0);
        due("tears stay counted when mended", x.count(5), 2);
        x.cut(0);
        due("tears stay counted when cut out", x.count(5), 2);
        due("a first one is the widest", x.count(10), 0);
        int[] bad = {-1, 13, 14, 19, 23, Integer.MIN_VALUE, Integer.MAX_VALUE};
        for (int what : bad) {
            due("count(" + what + ")", x.count(what), INVALID);
        }
    }

    private static void undo() {
        part = "21 undo";
        HandBlinds x = new HandBlinds();
        due("no history", x.undo(), IMPOSSIBLE);
        for (int value = 10; value < 17; value++) {
            x.set(0, value);
        }
        due("at most four states", x.count(11), 4);
        for (int left = 3; left >= 0; left--) {
            due("states left", x.undo(), left);
            due("value then", x.count(20), 12 + left);
        }
        due("an empty history", x.undo(), IMPOSSIBLE);
        due("value of the oldest state", x.count(20), 12);
        x.set(0, 30);
        due("history grows again", x.count(11), 1);
        due("and back again", x.undo(), 0);
        due("to the value ahead", x.count(20), 12);
        write(x, "AB");
        x.add();
        x.type('C');
        x.undo();
        due("the text is not brought back", x.count(12), 3);
        due("no text is recorded", x.count(11), 0);
    }

    private static void undoBringsBackAll() {
        part = "21 undo of each change";
        List<ToIntFunction<HandBlinds>> changes = List.of(x -> x.cut(0), x -> x.swap(0, 3), x -> x.mend(0),
            x -> x.crank(-1, 1), x -> x.route(1), x -> x.drive(-1), x -> x.set(0, 33), HandBlinds::stop,
            HandBlinds::add, x -> x.crank(1, 2));
        String before = picture(worn());
        for (int i = 0; i < changes.size(); i++) {
            HandBlinds changed = worn();
            int answer = changes.get(i).applyAsInt(changed);
            due("change " + i + " is no error", isError(answer) ? 1 : 0, 0);
            due("change " + i + " is recorded", changed.count(11), 4);
            due("change " + i + " changes", picture(changed).equals(before) ? 1 : 0, 0);
            HandBlinds undone = worn();
            changes.get(i).applyAsInt(undone);
            undone.undo();
            due("change " + i + " is undone", picture(undone).equals(before) ? 1 : 0, 1);
        }
    }

    private static void undoOfRightStops() {
        part = "21 undo of right stops";
        HandBlinds x = roll("A/B");
        x.route(1);
        x.drive(0);
        x.stop();
        x.stop();
        x.undo();
        due("stops", x.count(7), 1);
        due("right stops", x.count(8), 1);
        due("stops on the route", x.routeOf(0, 3), 1);
        due("right stops on the route", x.routeOf(0, 4), 1);
        x.undo();
        x.undo();
        x.undo();
        due("no route", x.count(2), 0);
        x.route(2);
        due("a new route has no stops", x.routeOf(0, 3) + x.routeOf(0, 4), 0);
    }

    private static void fullRollWithAllRoutes() {
        part = "a full roll with all routes";
        HandBlinds x = fullRoll();
        x.set(1, 1);
        for (int i = 0; i < 6; i++) {
            x.route(1 | 1 << 19 - i);
        }
        due("to the end", x.crank(19, 2), 19);
        due("no further", x.crank(1, 2), 19);
        due("all but the last are torn", x.count(4), (1 << 19) - 1);
        due("tears", x.count(5), 19);
        due("passed", x.count(6), 19);
        due("routes of the first row", x.rowOf(0, 6), 63);
        due("routes of the last row", x.rowOf(19, 6), 1);
        due("torn of a route", x.routeOf(5, 2), 1 | 1 << 14);
        due("widest", x.count(10), 0);
        due("mean", x.mean(), Float.floatToIntBits(38.0f / 20.0f));
        due("nearest", x.nearest(0), MISSING);
        x.drive(0);
        due("nearest on a route", x.nearest(1), 0);
        due("first and last changed about", x.swap(0, 19), 19);
        due("a route with both", x.routeOf(0, 0), 1 | 1 << 19);
        due("a route with the first alone", x.routeOf(5, 0), 1 << 19 | 1 << 14);
        due("last cut out", x.cut(19), 18);
        due("its routes without it", x.routeOf(5, 0), 1 << 14);
        due("rows", x.count(0), 19);
        due("undone", x.undo(), 3);
        due("rows again", x.count(0), 20);
        due("its routes with it again", x.routeOf(5, 0), 1 << 19 | 1 << 14);
        due("held at once", x.crank(-20, 1), 18);
    }

    private static HandBlinds worn() {
        HandBlinds x = roll("AB/DEPOT/C/D");
        x.set(1, 1);
        x.route(0b0011);
        x.route(0b1100);
        x.drive(0);
        x.crank(2, 3);
        x.stop();
        return x;
    }

    private static String picture(HandBlinds x) {
        StringBuilder all = new StringBuilder();
        for (int what = 0; what <= 22; what++) {
            all.append(what == 11 ? 0 : x.count(what)).append(' ');
        }
        for (int row = 0; row < x.count(0); row++) {
            for (int what = 0; what <= 7; what++) {
                all.append(x.rowOf(row, what)).append(' ');
            }
            for (int i = 0; i < 14; i++) {
                all.append(x.letter(row, i)).append(' ');
            }
        }
        for (int route = 0; route < x.count(2); route++) {
            for (int what = 0; what <= 4; what++) {
                all.append(x.routeOf(route, what)).append(' ');
            }
        }
        return all.toString();
    }

    private static void errorsChangeNothing() {
        part = "errors change nothing, and nothing is thrown";
        String before = picture(worn());
        for (int a : WILD) {
            for (int b : WILD) {
                HandBlinds x = worn();
                x.undo();
                x.undo();
                x.undo();
                x.undo();
                x.stop();
                int changes = 1;
                int[] answers = {x.swap(a, b), x.crank(a, b), x.set(a, b), x.cut(a), x.mend(a), x.route(a)};
                for (int answer : answers) {
                    changes += isError(answer) ? 0 : 1;
                }
                due("states after " + a + " and " + b, x.count(11), Math.min(changes, 4));
                askWildly(x, a, b);
                askWildly(new HandBlinds(), a, b);
                HandBlinds y = worn();
                askWildly(y, a, b);
                due("state after asking " + a + " and " + b, picture(y).equals(before) ? 1 : 0, 1);
            }
            changeWildly(a, before);
        }
    }

    private static void askWildly(HandBlinds x, int a, int b) {
        x.would(a, b, 1);
        x.would(1, a, b);
        x.rowOf(a, b);
        x.letter(a, b);
        x.routeOf(a, b);
        x.alike(a, b);
        x.nearest(a);
        x.read(a);
        x.count(a);
        x.fault(a);
        x.find();
        x.mean();
    }

    private static void changeWildly(int a, String before) {
        List<ToIntFunction<HandBlinds>> changes = List.of(x -> x.cut(a), x -> x.mend(a), x -> x.route(a),
            x -> x.drive(a), x -> x.swap(a, 0), x -> x.swap(0, a), x -> x.crank(a, 1), x -> x.crank(1, a),
            x -> x.set(a, 20), x -> x.set(2, a));
        for (int i = 0; i < changes.size(); i++) {
            HandBlinds x = worn();
            if (isError(changes.get(i).applyAsInt(x))) {
                due("state after the error " + i + " of " + a, picture(x).equals(before) ? 1 : 0, 1);
            }
        }
    }

    private static boolean isError(int answer) {
        return answer == INVALID || answer == IMPOSSIBLE || answer == LIMIT || answer == MISSING;
    }

    private static void type() {
        part = "22 type";
        HandBlinds x = new HandBlinds();
        due("below the least", x.type(31), INVALID);
        due("above the most", x.type(127), INVALID);
        due("a letter of 16 bits", x.type(65536 + 65), INVALID);
        due("below 0", x.type(-1), INVALID);
        due("least", x.type(32), 1);
        due("most", x.type(126), 2);
        for (int i = 3; i <= 60; i++) {
            due("length", x.type('A'), i);
        }
        due("a full text", x.type('A'), LIMIT);
        due("a wrong one at a full text", x.type(31), INVALID);
        due("length of a full text", x.count(12), 60);
        due("a full text has a fault as well", x.fault(2), 0);
        due("typing is no change", x.count(11), 0);
    }

    private static void clearText() {
        part = "23 clearText";
        HandBlinds x = new HandBlinds();
        due("empty", x.clearText(), 0);
        write(x, "ABC");
        due("length it had", x.clearText(), 3);
        due("empty then", x.count(12), 0);
        due("and again", x.clearText(), 0);
        x.type('Z');
        x.add();
        due("typed anew", x.letter(0, 0), 'Z');
        due("one letter", x.rowOf(0, 0), 1);
    }

    private static void dueFault(HandBlinds x, String text, int place, int reason, int cause) {
        write(x, text);
        due("place in '" + text + "'", x.fault(0), place);
        due("reason in '" + text + "'", x.fault(1), reason);
        due("cause in '" + text + "'", x.fault(2), cause);
        due("adding '" + text + "'", x.add(), IMPOSSIBLE);
    }

    private static void faultOfForm() {
        part = "24 fault of the form";
        HandBlinds x = new HandBlinds();
        dueFault(x, "", 0, 1, 0);
        dueFault(x, "/", 0, 1, 0);
        dueFault(x, "A/", 2, 1, 0);
        dueFault(x, "A//B", 2, 1, 0);
        dueFault(x, "/A", 0, 1, 0);
        dueFault(x, " ", 0, 1, 0);
        dueFault(x, " A", 0, 1, 0);
        dueFault(x, "A ", 0, 1, 1);
        dueFault(x, "A  B", 0, 1, 2);
        dueFault(x, "A  ", 0, 1, 2);
        dueFault(x, "A B /C", 0, 1, 3);
        dueFault(x, "AB/C D/eF", 7, 1, 0);
        dueFault(x, "AB/C D/Ef ", 7, 1, 1);
        dueFault(x, "A@", 0, 1, 1);
        dueFault(x, "A[", 0, 1, 1);
        dueFault(x, "A.B", 0, 1, 1);
        dueFault(x, "A1", 0, 1, 1);
        dueFault(x, "I/ABCDEFGHIJKLMNO", 2, 1, 14);
        dueFault(x, "ABCDEFGHIJKLMN ", 0, 1, 14);
        dueFault(x, "ABCDEFGHIJKLM ", 0, 1, 13);
        dueFault(x, "ABCDEFGHIJKLM N", 0, 1, 14);
        dueFault(x, "ABCDEFGHIJKLMN9", 0, 1, 14);
        dueFault(x, "ABCDEFGHIJKL9NOPQ", 0, 1, 12);
        dueFault(x, "A/B/C/D/E/F/G/H/I/J/K/L/M/N/O/P/Q/R/S/T/", 40, 1, 0);
        due("what below 0", x.fault(-1), INVALID);
        due("what too great", x.fault(3), INVALID);
        write(x, "A B C/DEPOT");
        due("no fault", x.fault(0), MISSING);
        due("no reason", x.fault(1), MISSING);
        due("no cause", x.fault(2), MISSING);
        due("a wrong what goes ahead", x.fault(3), INVALID);
        write(x, "ABCDEFGHIJKLMN");
        due("fourteen characters", x.fault(0), MISSING);
    }

    private static void faultOfWidthAndRoll() {
        part = "24 fault of width and roll";
        HandBlinds x = new HandBlinds();
        x.set(0, 4);
        dueFault(x, "AAA/AAAA", 4, 2, 200);
        dueFault(x, "AAA/AAIII", 4, 2, 175);
        dueFault(x, "MM/MMI", 3, 2, 175);
        write(x, "MM/AAA/IIIIII");
        due("150 percent is no fault", x.fault(0), MISSING);
        due("they are added", x.add(), 3);
        x.set(0, 60);
        write(x, "A/B/C/D/E/F/G/H/I/J/K/L/M/N/O/P/Q");
        due("twenty rows are no fault", x.fault(0), MISSING);
        dueFault(x, "A/B/C/D/E/F/G/H/I/J/K/L/M/N/O/P/Q/RST", 34, 3, 3);
        write(x, "A/B/C/D/E/F/G/H/I/J/K/L/M/N/O/P/Q");
        due("added to twenty rows", x.add(), 17);
        dueFault(x, "AB/C", 0, 3, 2);
        dueFault(x, "AB /C", 0, 1, 2);
        x.set(0, 4);
        dueFault(x, "MMM", 0, 2, 225);
        x.cut(0);
        write(x, "AB");
        due("room again", x.fault(0), MISSING);
    }
}
