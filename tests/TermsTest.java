import java.util.List;
import java.util.function.ToIntFunction;

/** Each sentence under "What it is" and "Terms" of the document that names a boundary case. */
public final class TermsTest {
    private static final int INVALID = Sentences.INVALID;
    private static final int IMPOSSIBLE = Sentences.IMPOSSIBLE;
    private static final int LIMIT = Sentences.LIMIT;
    private static final int MISSING = Sentences.MISSING;
    private static final String FOURTEEN_WIDE = "MMMMMMMMMMMMMM";

    public static void main(String[] arguments) {
        whatItIs();
        terms();
        names();
        kinds();
        squeezedNames();
        roll();
        cranking();
        endOfCranking();
        speedThree();
        routes();
        stops();
        settings();
        reading();
        texts();
        faults();
        causes();
        changes();
        history();
        errors();
        Sentences.finish();
    }

    private static void says(String sentence) {
        Sentences.says(sentence);
    }

    private static void due(String call, long got, long want) {
        Sentences.due(call, got, want);
    }

    private static HandBlinds blind(String names) {
        return Sentences.roll(names);
    }

    // ---- what it is

    private static void whatItIs() {
        says("An object is used for at most 512 calls after it has been made");
        HandBlinds x = new HandBlinds();
        x.type('A');
        x.type('/');
        x.type('B');
        x.add();
        for (int i = 0; i < 250; i++) {
            due("there", x.crank(1, 3), 1);
            due("and back", x.crank(-1, 3), 0);
        }
        due("rows passed in 500 crankings", x.count(6), 500);
        due("wear of the first row", x.rowOf(0, 4), 750);
        due("tears", x.count(5), 2);
        due("a mending late", x.mend(0), 375);
        due("states", x.count(11), 4);
        due("undone", x.undo(), 3);
        due("the 511th call", x.rowOf(0, 4), 750);
        due("the 512th call", x.undo(), 2);
    }

    private static void terms() {
        says("All divisions are rounded down.");
        HandBlinds x = blind("AAAAAAAAAAAAI");
        due("25 * 100 / 24", x.rowOf(0, 2), 104);
        due("2 * 10 * 100 / 104 at its distance", x.read(19), 12);
        due("2 * 10 * 100 / 104 behind it", x.read(20), 0);
        Sentences.addNames(x, "B");
        x.set(1, 2);
        x.crank(1, 3);
        due("3 / 2", x.mend(0), 1);

        says("Sets of names or routes are told as bits: bit k is for number k.");
        HandBlinds y = blind(Sentences.TWENTY);
        due("a set of the first and the last row", y.route(1 | 1 << 19), 0);
        due("a set of the last row alone", y.route(1 << 19), 1);
        due("rows", y.routeOf(0, 0), 1 | 1 << 19);
        due("routes of the last row", y.rowOf(19, 6), 0b11);
        due("routes of the first row", y.rowOf(0, 6), 0b01);
        due("routes of the row behind it", y.rowOf(1, 6), 0);
    }

    // ---- names

    private static void names() {
        says("A name has 1 to 14 characters");
        HandBlinds x = new HandBlinds();
        Sentences.dueFault(x, "", 0, 1, 0);
        Sentences.dueNoFault(x, "A");
        Sentences.dueNoFault(x, "ABCDEFGHIJKLMN");
        due("fourteen are added", x.add(), 1);
        due("all fourteen", x.rowOf(0, 0), 14);
        Sentences.dueFault(x, "ABCDEFGHIJKLMNO", 0, 1, 14);
        due("fifteen are not added", x.add(), IMPOSSIBLE);

        says("letters A to Z and blanks");
        for (char sign = 32; sign <= 126; sign++) {
            boolean good = sign == ' ' || sign == '/' || sign >= 'A' && sign <= 'Z';
            HandBlinds y = new HandBlinds();
            Sentences.write(y, "A" + sign + "B");
            due("cause with the character " + (int) sign, y.fault(2), good ? MISSING : 1);
            due("add with the character " + (int) sign, y.add(), sign == '/' ? 2 : good ? 1 : IMPOSSIBLE);
        }

        says("it does not begin or end with a blank");
        Sentences.dueFault(x, " A", 0, 1, 0);
        Sentences.dueFault(x, "A ", 0, 1, 1);
        Sentences.dueFault(x, " ", 0, 1, 0);
        Sentences.dueNoFault(x, "A B");

        says("and has no two blanks side by side");
        Sentences.dueFault(x, "A  B", 0, 1, 2);
        Sentences.dueFault(x, "A   B", 0, 1, 2);
        Sentences.dueFault(x, "A B  C", 0, 1, 4);
        Sentences.dueNoFault(x, "A B C D E F GH");

        says("The width of a letter is 1 for I and a blank, 3 for M and W, otherwise 2");
        for (char letter = 'A'; letter <= 'Z'; letter++) {
            int width = letter == 'I' ? 1 : letter == 'M' || letter == 'W' ? 3 : 2;
            due("width of " + letter, blind("" + letter).rowOf(0, 1), width);
        }
        due("two letters and a blank", blind("A B").rowOf(0, 1), 5);

        says("the width of a name is the sum of these");
        due("the narrowest name", blind("I").rowOf(0, 1), 1);
        due("letters of all widths", blind("MI AW").rowOf(0, 1), 10);
        x.set(0, 60);
        Sentences.addNames(x, FOURTEEN_WIDE);
        due("the widest name", x.rowOf(1, 1), 42);
    }

    private static void kinds() {
        says("The kind of a name is 1 for DEPOT, 2 for SORRY, 3 for PRIVATE, 4 for a name of one letter, otherwise 0.");
        String[][] ofKind = {
            {"DEPO", "DEPOTS", "DEPO T", "XDEPOT", "EPOT", "SORR", "SORRYS", "SORRI", "PRIVAT", "PRIVATES", "AB", "I I", "A A",
                "XEPOT", "XORRY", "XRIVATE", "DEPOX", "SORRX", "PRIVATX", "DXPOT", "SOXRY", "PRIXATE"},
            {"DEPOT"}, {"SORRY"}, {"PRIVATE"}, {"A", "D", "I", "M", "S", "Z"}};
        for (int kind = 0; kind < ofKind.length; kind++) {
            for (String name : ofKind[kind]) {
                due("kind of " + name, blind(name).rowOf(0, 3), kind);
            }
        }
    }

    private static void squeezedNames() {
        says("A name that is wider is squeezed by (its width times 100) / (the width of the blind) percent;");
        HandBlinds x = blind("AAAAAAAAAAAAI");
        due("wider by one", x.rowOf(0, 2), 104);
        x.set(0, 4);
        due("wider by far", x.rowOf(0, 2), 625);

        says("one that is not by 100.");
        x.set(0, 25);
        due("just as wide", x.rowOf(0, 2), 100);
        x.set(0, 26);
        due("narrower by one", x.rowOf(0, 2), 100);
        x.set(0, 60);
        due("narrower by far", x.rowOf(0, 2), 100);

        says("No name may be squeezed by more than 150 percent when it is added;");
        HandBlinds y = new HandBlinds();
        y.set(0, 26);
        Sentences.dueNoFault(y, "MMMMMMMMMMMMM");
        due("150 percent are added", y.add(), 1);
        due("these 150 percent", y.rowOf(0, 2), 150);
        y.set(0, 27);
        Sentences.dueFault(y, "MMMMMMMMMMMMMA", 0, 2, 151);
        due("151 percent are not", y.add(), IMPOSSIBLE);
        y.set(0, 28);
        due("the same name on a wider blind is", y.add(), 1);

        says("if the blind becomes narrower later, it may.");
        due("narrower below the names", y.set(0, 4), 28);
        due("the names stay", y.count(0), 2);
        due("a name squeezed later", y.rowOf(1, 2), 1025);
        y.set(0, 60);
        Sentences.addNames(y, FOURTEEN_WIDE);
        y.set(0, 4);
        due("the most of all", y.rowOf(2, 2), 1050);
        due("it is shown all the same", y.crank(2, 1), 2);
    }

    // ---- the roll

    private static void roll() {
        says("There are at most 20 rows, numbered from 0");
        HandBlinds x = blind(Sentences.NINETEEN);
        due("no row 19 of nineteen", x.rowOf(19, 0), INVALID);
        due("the twentieth row", Sentences.addNames(x, "TT"), 1);
        due("twenty rows", x.count(0), 20);
        due("the row 19", x.rowOf(19, 0), 2);
        due("a twenty-first row", Sentences.addNames(x, "U"), IMPOSSIBLE);
        due("twenty rows still", x.count(0), 20);
        due("no row 20", x.rowOf(20, 0), INVALID);
        due("the row 0", x.letter(0, 0), 'A');
        due("no row -1", x.rowOf(-1, 0), INVALID);

        says("each with a name, a wear (0 at first) and perhaps a tear.");
        for (int row = 0; row < 20; row++) {
            due("wear of the new row " + row, x.rowOf(row, 4), 0);
            due("tear of the new row " + row, x.rowOf(row, 5), 0);
        }

        HandBlinds again = blind("A/B/C");
        Sentences.tearShown(again);
        again.cut(0);
        again.cut(0);
        Sentences.addNames(again, "D/E");
        for (int row = 0; row < 3; row++) {
            due("wear of the row " + row + " after worn ones are cut out", again.rowOf(row, 4), 0);
        }
        due("no tear after torn ones are cut out", again.count(4), 0);

        says("One row is shown (the row 0 from the first name on).");
        HandBlinds y = new HandBlinds();
        due("none ahead of the first name", y.count(1), MISSING);
        Sentences.addNames(y, "A/B/C");
        due("from the first name on", y.count(1), 0);
        due("the row 0 tells it", y.rowOf(0, 7), 1);
        due("the row 1 does not", y.rowOf(1, 7), 0);
        y.crank(2, 1);
        Sentences.addNames(y, "D");
        due("later names leave it", y.count(1), 2);
        for (int i = 0; i < 4; i++) {
            y.cut(0);
        }
        due("none without rows", y.count(1), MISSING);
        Sentences.addNames(y, "E/F");
        due("from the first name anew", y.count(1), 0);
    }

    private static void cranking() {
        says("go row by row, down the numbers or up them, that often");
        HandBlinds x = blind("A/B/C/D");
        due("up by one", x.crank(1, 1), 1);
        due("up by two", x.crank(2, 1), 3);
        due("down by two", x.crank(-2, 1), 1);
        due("down by one", x.crank(-1, 1), 0);

        says("the row that is left gets wear, as much as the speed");
        for (int speed = 1; speed <= 3; speed++) {
            HandBlinds y = blind("A/B/C");
            y.crank(1, speed);
            due("wear at the speed " + speed, y.rowOf(0, 4), speed);
            due("no wear of the shown row at the speed " + speed, y.rowOf(1, 4), 0);
        }
        HandBlinds end = blind("A/B");
        end.crank(-1, 3);
        due("no wear of a row that is not left", end.rowOf(0, 4), 0);

        says("(a torn one, too)");
        HandBlinds torn = blind("A/B");
        Sentences.tearShown(torn);
        due("wear of a torn row", torn.rowOf(0, 4), 2);
        torn.crank(1, 3);
        due("wear of a torn row that is left", torn.rowOf(0, 4), 5);

        says("if its wear is above setting 1 then, and it is not torn, it tears.");
        tearAtStrength();
        HandBlinds weak = blind("A/B/C");
        weak.crank(1, 3);
        weak.set(1, 1);
        due("a smaller strength tears none by itself", weak.count(4), 0);
        weak.crank(-1, 1);
        due("the wear at the strength of 1", weak.count(4), 0);
        weak.crank(1, 1);
        due("the row above it, when it is left", weak.count(4), 0b001);
        weak.crank(-1, 1);
        weak.crank(1, 1);
        due("a torn row does not tear again", weak.count(5), 2);
        due("both are torn", weak.count(4), 0b011);
    }

    private static void tearAtStrength() {
        HandBlinds x = blind("A/B");
        x.set(1, 200);
        for (int i = 0; i < 66; i++) {
            x.crank(1, 3);
            x.crank(-1, 1);
        }
        x.crank(1, 2);
        due("wear at the strength", x.rowOf(0, 4), 200);
        due("it does not tear", x.rowOf(0, 5), 0);
        x.crank(-1, 1);
        x.crank(1, 1);
        due("wear above the strength", x.rowOf(0, 4), 201);
        due("it tears", x.rowOf(0, 5), 1);
    }

    private static void endOfCranking() {
        says("A cranking ends early when the end of the roll is shown");
        HandBlinds x = blind(Sentences.TWENTY);
        due("up to the end", x.crank(20, 1), 19);
        due("no wear of the last row", x.rowOf(19, 4), 0);
        due("up at the end, not on to the row 0", x.crank(1, 1), 19);
        due("down to the beginning", x.crank(-20, 1), 0);
        due("down at the beginning, not on to the last row", x.crank(-1, 1), 0);
        due("passed", x.count(6), 38);
        HandBlinds one = blind("A");
        due("up with one row", one.crank(20, 3), 0);
        due("down with one row", one.crank(-20, 3), 0);
        due("no wear with one row", one.rowOf(0, 4), 0);

        says("or a row that is torn already is shown (it holds the roll;");
        HandBlinds y = blind("A/B/C/D/E");
        y.crank(2, 1);
        Sentences.tearShown(y);
        y.crank(-2, 1);
        due("held on the way up", y.crank(4, 1), 2);
        due("its wear is by what it was left, not by the holding", y.rowOf(2, 4), 3);
        y.crank(2, 1);
        due("held on the way down", y.crank(-4, 1), 2);
        y.mend(2);
        due("a mended row does not hold", y.crank(-4, 1), 0);
        HandBlinds torn = blind("A/B/C");
        torn.set(1, 1);
        due("rows that tear when they are left do not hold", torn.crank(2, 2), 2);
        due("they tear", torn.count(4), 0b011);

        says("the row it began with does not hold it).");
        due("from a torn row up", tornInMiddle().crank(2, 1), 4);
        due("from a torn row down", tornInMiddle().crank(-2, 1), 0);
    }

    private static HandBlinds tornInMiddle() {
        HandBlinds x = blind("A/B/C/D/E");
        x.crank(2, 1);
        Sentences.tearShown(x);
        return x;
    }

    private static void dueWears(String call, HandBlinds x, int... wears) {
        for (int row = 0; row < wears.length; row++) {
            due(call + ", wear of the row " + row, x.rowOf(row, 4), wears[row]);
        }
    }

    private static void speedThree() {
        says("At the speed 3, each second row that is passed is skipped: the wear of that row does not grow");
        HandBlinds x = blind("A/B/C/D/E/F");
        x.crank(5, 3);
        dueWears("up", x, 3, 0, 3, 0, 3, 0);
        x.crank(-5, 3);
        dueWears("and down", x, 3, 3, 3, 3, 3, 3);
        HandBlinds slower = blind("A/B/C/D/E/F");
        slower.crank(5, 2);
        dueWears("none is skipped at the speed 2", slower, 2, 2, 2, 2, 2, 0);
        slower.crank(-5, 1);
        dueWears("none is skipped at the speed 1", slower, 2, 3, 3, 3, 3, 1);

        says("and it does not tear");
        HandBlinds y = blind("A/B/C/D");
        y.crank(3, 2);
        y.crank(-3, 2);
        y.set(1, 1);
        y.crank(3, 3);
        due("the skipped row is not torn, though its wear is above the strength", y.count(4), 0b0101);
        dueWears("skipped", y, 5, 4, 7, 2);

        says("(the first row that is left, the one it began with, is not skipped, the second one is, and so on).");
        HandBlinds z = blind("A/B/C/D");
        z.crank(1, 3);
        z.crank(1, 3);
        dueWears("each cranking counts anew", z, 3, 3, 0, 0);
        z.crank(-2, 3);
        dueWears("down from the row it began with", z, 3, 3, 3, 0);
    }

    // ---- routes and stops

    private static void routes() {
        says("There are at most 6 routes, numbered from 0");
        HandBlinds x = blind(Sentences.TWENTY);
        for (int route = 0; route < 6; route++) {
            due("no such route yet", x.routeOf(route, 0), INVALID);
            due("number", x.route(1 << route), route);
        }
        due("a seventh", x.route(1), LIMIT);
        due("six", x.count(2), 6);
        due("the first one's rows", x.routeOf(0, 0), 1);
        due("the last one's rows", x.routeOf(5, 0), 32);
        due("no route 6", x.routeOf(6, 0), INVALID);
        due("no route -1", x.routeOf(-1, 0), INVALID);

        says("rows that are cut out leave the sets, rows behind them have numbers less by 1;");
        HandBlinds y = blind(Sentences.TWENTY);
        y.route((1 << 20) - 1);
        y.route(1 << 19 | 1);
        y.route(1 << 7);
        y.cut(7);
        due("all without one", y.routeOf(0, 0), (1 << 19) - 1);
        due("the last and the first", y.routeOf(1, 0), 1 << 18 | 1);
        due("a route is left without rows", y.routeOf(2, 0), 0);
        due("a route without rows is there", y.count(2), 3);
        y.cut(18);
        due("without the last row", y.routeOf(1, 0), 1);
        y.cut(0);
        due("without the first row", y.routeOf(1, 0), 0);
        due("all but three", y.routeOf(0, 0), (1 << 17) - 1);
        Sentences.addNames(y, "NEW");
        due("a new row belongs to none", y.rowOf(17, 6), 0);

        says("rows that are changed about take their places in the sets with them, so that a route keeps its names");
        HandBlinds z = blind("A/B/C/D");
        int[] sets = {0b0001, 0b1000, 0b1001, 0b0110, 0b1111, 0b0101};
        int[] changed = {0b1000, 0b0001, 0b1001, 0b0110, 0b1111, 0b1100};
        for (int set : sets) {
            z.route(set);
        }
        z.swap(0, 3);
        for (int route = 0; route < 6; route++) {
            due("rows of the route " + route, z.routeOf(route, 0), changed[route]);
        }
        z.swap(3, 0);
        for (int route = 0; route < 6; route++) {
            due("rows of the route " + route + " again", z.routeOf(route, 0), sets[route]);
        }

        says("The bus goes on one of them, or none (at first).");
        due("none at first", z.count(3), MISSING);
        z.drive(5);
        due("one", z.count(3), 5);
        z.drive(-1);
        due("none again", z.count(3), MISSING);
    }

    private static void dueStop(String call, HandBlinds x, int want) {
        due(call + ", asked ahead", x.count(9), want);
        due(call, x.stop(), want);
    }

    /** A roll that shows one name, with a route 0 of this name and a route 1 of another one. */
    private static HandBlinds showing(String name) {
        HandBlinds x = blind(name + "/XX");
        x.route(0b01);
        x.route(0b10);
        return x;
    }

    private static void stops() {
        says("the first of these that is so");
        HandBlinds x = showing("NORTH");
        x.set(0, 4);
        Sentences.tearShown(x);
        dueStop("2 ahead of 3 and 5", x, 2);
        x.drive(1);
        dueStop("2 ahead of 4 and 5", x, 2);
        x.mend(0);
        dueStop("4 ahead of 5", x, 4);
        x.drive(-1);
        dueStop("3 ahead of 5", x, 3);
        x.cut(1);
        x.cut(0);
        x.drive(1);
        dueStop("1 ahead of 4", x, 1);

        says("1 there is no name;");
        dueStop("on a new object", new HandBlinds(), 1);
        dueStop("on a route, with all names cut out", x, 1);

        says("2 the row is torn;");
        HandBlinds torn = showing("DEPOT");
        Sentences.tearShown(torn);
        dueStop("a torn row", torn, 2);
        torn.drive(0);
        dueStop("a torn row of the route", torn, 2);
        torn.mend(0);
        dueStop("mended", torn, 0);

        says("3 the bus goes on no route, and the kind is not 1 or 2;");
        String[] ofKind = {"NORTH", "DEPOT", "SORRY", "PRIVATE", "A"};
        int[] withoutRoute = {3, 0, 0, 3, 3};
        int[] onOtherRoute = {4, 4, 0, 4, 4};
        for (int kind = 0; kind < 5; kind++) {
            dueStop("on no route, kind " + kind, showing(ofKind[kind]), withoutRoute[kind]);
        }

        says("4 the bus goes on a route to which it does not belong, and the kind is not 2;");
        for (int kind = 0; kind < 5; kind++) {
            HandBlinds y = showing(ofKind[kind]);
            y.drive(1);
            dueStop("on another route, kind " + kind, y, onOtherRoute[kind]);
        }

        says("5 it is squeezed by more than 120 percent;");
        HandBlinds wide = showing("MMMMMMMA");
        wide.drive(0);
        wide.set(0, 19);
        due("23 * 100 / 19", wide.rowOf(0, 2), 121);
        dueStop("121 percent", wide, 5);
        HandBlinds depot = showing("DEPOT");
        depot.set(0, 8);
        dueStop("DEPOT without a route, by 125 percent", depot, 5);
        HandBlinds sorry = showing("SORRY");
        sorry.drive(1);
        sorry.set(0, 8);
        dueStop("SORRY on another route, by 125 percent", sorry, 5);

        says("otherwise 0, it is right.");
        HandBlinds right = showing("MMMMMMMM");
        right.drive(0);
        right.set(0, 20);
        due("24 * 100 / 20", right.rowOf(0, 2), 120);
        dueStop("120 percent", right, 0);
        for (int kind = 0; kind < 5; kind++) {
            HandBlinds y = showing(ofKind[kind]);
            y.drive(0);
            dueStop("on its route, kind " + kind, y, 0);
        }
    }

    // ---- settings

    private static void dueSetting(int what, int least, int most, int first) {
        HandBlinds x = new HandBlinds();
        due("first value", x.count(20 + what), first);
        due("the least", x.set(what, least), first);
        due("below the least", x.set(what, least - 1), INVALID);
        due("the least stays", x.count(20 + what), least);
        due("the most", x.set(what, most), least);
        due("above the most", x.set(what, most + 1), INVALID);
        due("the most stays", x.count(20 + what), most);
        for (int value : new int[] {-least, -most, 0, Integer.MIN_VALUE, Integer.MAX_VALUE}) {
            due("the value " + value, x.set(what, value), INVALID);
        }
    }

    private static void settings() {
        says("0 the width of the blind (4 to 60; 24)");
        dueSetting(0, 4, 60, 24);
        says("1 the strength (1 to 200; 30)");
        dueSetting(1, 1, 200, 30);
        says("2 the sight (1 to 50; 10)");
        dueSetting(2, 1, 50, 10);
    }

    private static void reading() {
        says("if (its width times setting 2 times 100) / (by how much percent the name is squeezed) is at least the distance");
        HandBlinds x = blind("MAI");
        int[] distances = {1, 10, 11, 20, 21, 30, 31, 999};
        int[] read = {3, 3, 2, 2, 1, 1, 0, 0};
        for (int i = 0; i < distances.length; i++) {
            due("read(" + distances[i] + ")", x.read(distances[i]), read[i]);
        }
        x.set(2, 1);
        due("the least sight", x.read(3), 1);
        due("behind the least sight", x.read(4), 0);
        x.set(2, 50);
        due("the greatest sight", x.read(150), 1);
        due("behind the greatest sight", x.read(151), 0);
        HandBlinds y = new HandBlinds();
        y.set(0, 60);
        Sentences.addNames(y, FOURTEEN_WIDE);
        y.set(0, 4);
        due("3 * 10 * 100 / 1050", y.read(2), 14);
        due("behind it", y.read(3), 0);
        y.set(2, 1);
        due("none is read at the least distance", y.read(1), 0);

        says("a blank always is.");
        HandBlinds blanks = blind("A B C");
        due("from the greatest distance", blanks.read(999), 2);
        due("just behind the letters", blanks.read(21), 2);
        due("at the letters' distance", blanks.read(20), 5);
        blanks.set(0, 4);
        blanks.set(2, 1);
        due("squeezed, with the least sight", blanks.read(2), 2);
    }

    // ---- texts

    private static void texts() {
        says("There is a text of at most 60 characters, initially empty");
        HandBlinds x = new HandBlinds();
        due("empty", x.count(12), 0);
        for (int i = 1; i <= 60; i++) {
            due("length", x.type('A'), i);
        }
        due("a sixty-first", x.type('A'), LIMIT);
        due("sixty", x.count(12), 60);
        due("sixty to clear", x.clearText(), 60);
        due("room again", x.type('A'), 1);

        says("names, with \"/\" between two.");
        HandBlinds y = blind("AB/C/D E");
        due("three names", y.count(0), 3);
        due("the end of the first", y.rowOf(0, 0), 2);
        due("the second", y.letter(1, 0), 'C');
        due("the third", y.rowOf(2, 0), 3);
        Sentences.dueFault(y, "/", 0, 1, 0);
        Sentences.dueFault(y, "/A", 0, 1, 0);
        Sentences.dueFault(y, "A/", 2, 1, 0);
        Sentences.dueFault(y, "A//B", 2, 1, 0);
        HandBlinds full = new HandBlinds();
        Sentences.write(full, "ABCDEFGHIJKLMN/ABCDEFGHIJKLMN/ABCDEFGHIJKLMN/ABCDEFGHIJKL/DEF");
        due("a text to its last character", full.count(12), 60);
        due("four names and a last one of two letters", full.add(), 5);
        due("the last name", full.rowOf(4, 0), 2);
    }

    private static void faults() {
        says("the position, from 0, of the first character of the first name that cannot be added");
        HandBlinds x = new HandBlinds();
        Sentences.dueFault(x, "a/B", 0, 1, 0);
        Sentences.dueFault(x, "A/b/c", 2, 1, 0);
        Sentences.dueFault(x, "AB/CD/Ef", 6, 1, 1);
        Sentences.dueFault(x, "ABC/MMMMMMMMMMMMM/d", 4, 2, 162);

        says("if those ahead of it are added to the roll as it is;");
        Sentences.dueNoFault(x, Sentences.TWENTY);
        Sentences.dueFault(x, Sentences.TWENTY + "/UVW", 40, 3, 3);
        Sentences.addNames(x, Sentences.NINETEEN);
        Sentences.dueNoFault(x, "A");
        Sentences.dueFault(x, "A/B", 2, 3, 1);
        Sentences.addNames(x, "A");
        Sentences.dueFault(x, "A/B", 0, 3, 1);
        x.cut(0);
        Sentences.dueNoFault(x, "A");

        says("its reason is 1 if it is not of this form, 2 if it would be squeezed by more than 150 percent, 3 if there are 20 rows;");
        HandBlinds full = blind(Sentences.TWENTY);
        Sentences.dueFault(full, "MMMMMMMMMMMMMMM", 0, 1, 14);
        Sentences.dueFault(full, "MMMMMMMMMMMM M ", 0, 1, 14);
        Sentences.dueFault(full, "MMMMMMMMMMMMM", 0, 2, 162);
        Sentences.dueFault(full, "MMMMMMMMMMMM", 0, 3, 12);
        HandBlinds empty = new HandBlinds();
        Sentences.dueFault(empty, "MMMMMMMMMMMMM ", 0, 1, 13);
        Sentences.dueFault(empty, "MMMMMMMMMMMMM/A", 0, 2, 162);
        Sentences.dueNoFault(empty, "MMMMMMMMMMMM/A");
    }

    private static void causes() {
        HandBlinds x = new HandBlinds();
        says("its cause is with the reason 1 at which character of the name, from 0, it breaks off");
        Sentences.dueFault(x, "aB", 0, 1, 0);
        Sentences.dueFault(x, "AB/CDe", 3, 1, 2);
        Sentences.dueFault(x, "AB/C D-E F ", 3, 1, 3);
        Sentences.dueFault(x, "ABCDEFGHIJKLMn", 0, 1, 13);
        Sentences.dueFault(x, "ABCDEFGHIJKLm  no", 0, 1, 12);

        says("(with a name that is too short its length");
        Sentences.dueFault(x, "A//B", 2, 1, 0);
        Sentences.dueFault(x, "AB/", 3, 1, 0);

        says("with a blank at its end that of the blank");
        Sentences.dueFault(x, "A ", 0, 1, 1);
        Sentences.dueFault(x, "A/BC D /E", 2, 1, 4);
        Sentences.dueFault(x, "ABCDEFGHIJKLM ", 0, 1, 13);
        Sentences.dueFault(x, "A  ", 0, 1, 2);

        says("with more than 14 characters 14)");
        Sentences.dueNoFault(x, "ABCDEFGHIJKLMN");
        Sentences.dueFault(x, "ABCDEFGHIJKLMNO", 0, 1, 14);
        Sentences.dueFault(x, "AB/ABCDEFGHIJKLMNOPQRST", 3, 1, 14);
        Sentences.dueFault(x, "ABCDEFGHIJKLMN ", 0, 1, 14);
        Sentences.dueFault(x, "ABCDEFGHIJKLM N", 0, 1, 14);
        Sentences.dueFault(x, "ABCDEFGHIJKLMNABCDEFGHIJKLMNABCDEFGHIJKLMNABCDEFGHIJKLMNABCD", 0, 1, 14);

        says("with the reason 2 by how much percent it would be squeezed");
        x.set(0, 4);
        Sentences.dueFault(x, "AAA/AAII I", 4, 2, 200);
        Sentences.dueFault(x, "AAA/AAIII", 4, 2, 175);
        Sentences.dueFault(x, FOURTEEN_WIDE, 0, 2, 1050);

        says("with the reason 3 the length of the name.");
        HandBlinds full = blind(Sentences.TWENTY);
        Sentences.dueFault(full, "A", 0, 3, 1);
        Sentences.dueFault(full, "ABC/DE", 0, 3, 3);
        Sentences.dueFault(full, "ABCDEFGHIJKLMN", 0, 3, 14);

        says("(An empty text has one name, which is too short.)");
        Sentences.dueFault(new HandBlinds(), "", 0, 1, 0);
        due("it cannot be added", new HandBlinds().add(), IMPOSSIBLE);
        Sentences.dueFault(full, "", 0, 1, 0);
    }

    // ---- changes and errors

    /** Two names, of which the first is torn and the second shown, on the route 1, with some states to go back to. */
    private static HandBlinds used() {
        HandBlinds x = blind("A/DEPOT");
        x.set(1, 1);
        x.route(0b01);
        x.route(0b11);
        x.drive(1);
        x.crank(1, 2);
        x.crank(-1, 2);
        x.stop();
        Sentences.write(x, "NEW");
        x.undo();
        x.undo();
        x.undo();
        x.crank(1, 3);
        return x;
    }

    private static final List<ToIntFunction<HandBlinds>> CHANGES = List.of(HandBlinds::add, x -> x.cut(0),
        x -> x.swap(0, 1), x -> x.mend(0), x -> x.crank(-1, 1), x -> x.route(1), x -> x.drive(0), HandBlinds::stop,
        x -> x.set(2, 11));
    private static final List<ToIntFunction<HandBlinds>> CHANGES_BY_NOTHING = List.of(x -> x.crank(1, 1),
        x -> x.drive(1), x -> x.set(0, 24));
    private static final List<ToIntFunction<HandBlinds>> QUESTIONS = List.of(x -> x.rowOf(0, 0), x -> x.letter(0, 0),
        x -> x.routeOf(0, 0), x -> x.would(-1, 1, 1), x -> x.nearest(0), x -> x.alike(0, 1), x -> x.read(1),
        HandBlinds::find, HandBlinds::mean, x -> x.count(0), x -> x.fault(0));

    private static void changes() {
        says("The changes are the calls of add, cut, swap, mend, crank, route, drive, stop and set that return no error.");
        for (int i = 0; i < CHANGES.size(); i++) {
            HandBlinds x = used();
            int states = x.count(11);
            due("the change " + i + " is no error", CHANGES.get(i).applyAsInt(x) > -2 ? 1 : 0, 1);
            due("states after the change " + i, x.count(11), states + 1);
        }
        for (int i = 0; i < CHANGES_BY_NOTHING.size(); i++) {
            HandBlinds x = used();
            int states = x.count(11);
            String before = Sentences.picture(x);
            CHANGES_BY_NOTHING.get(i).applyAsInt(x);
            Sentences.dueSame("the picture after " + i, Sentences.picture(x), before);
            due("states after the change by nothing " + i, x.count(11), states + 1);
        }
        String untouched = Sentences.allPictures(used());
        for (int i = 0; i < QUESTIONS.size(); i++) {
            HandBlinds x = used();
            QUESTIONS.get(i).applyAsInt(x);
            Sentences.dueSame("all after the question " + i, Sentences.allPictures(x), untouched);
        }
        HandBlinds x = used();
        int states = x.count(11);
        x.type('A');
        x.clearText();
        due("states after calls of the text", x.count(11), states);
    }

    private static void history() {
        says("A history of at most 4 states is kept");
        HandBlinds x = new HandBlinds();
        for (int i = 1; i <= 6; i++) {
            x.set(0, 10 + i);
            due("states after " + i + " changes", x.count(11), Math.min(i, 4));
        }

        says("each change records everything before it but the text");
        for (int i = 0; i < CHANGES.size(); i++) {
            HandBlinds y = used();
            String before = Sentences.picture(y);
            CHANGES.get(i).applyAsInt(y);
            y.undo();
            Sentences.dueSame("the picture after the change " + i + " is undone", Sentences.picture(y), before);
        }
        HandBlinds text = blind("A");
        text.set(0, 20);
        Sentences.write(text, "XYZ");
        text.undo();
        due("the text stays as it is", text.count(12), 3);
        text.clearText();
        text.undo();
        due("the text that is cleared stays so", text.count(12), 0);

        says("and if there are 5 states then, the oldest one is dropped.");
        for (int left = 3; left >= 0; left--) {
            due("undo", x.undo(), left);
            due("setting then", x.count(20), 12 + left);
        }
        due("the states ahead are dropped", x.undo(), IMPOSSIBLE);
        due("the oldest state that was kept", x.count(20), 12);
    }

    private static void errors() {
        says("INVALID_ARGUMENT is returned rather than NOT_POSSIBLE");
        HandBlinds empty = new HandBlinds();
        due("crank by 0 without rows", empty.crank(0, 1), INVALID);
        due("crank at 4 without rows", empty.crank(1, 4), INVALID);
        due("would by 21 without rows", empty.would(21, 1, 0), INVALID);
        due("would at 0 without rows", empty.would(1, 0, 0), INVALID);
        due("would of 4 without rows", empty.would(1, 1, 4), INVALID);
        due("mend of no row", blind("A").mend(1), INVALID);

        says("NOT_POSSIBLE rather than LIMIT_REACHED, and LIMIT_REACHED rather than NOT_FOUND.");
        HandBlinds full = blind(Sentences.TWENTY);
        due("add to twenty rows is told as not possible", Sentences.addNames(full, "A"), IMPOSSIBLE);
        for (int i = 0; i < 6; i++) {
            full.route(1);
        }
        due("a seventh route of no rows", full.route(0), INVALID);
        due("a seventh route of a row 20", full.route(1 << 20), INVALID);
        Sentences.write(full, "AAAAAAAAAAAAAAAAAAAAAAAAAAAAAAAAAAAAAAAAAAAAAAAAAAAAAAAAAAAA");
        due("a wrong character in a full text", full.type(127), INVALID);
        due("a letter at a bad index of no row", full.letter(20, 99), INVALID);
        due("nearest of 2 without rows", empty.nearest(2), INVALID);
        due("read of 0 without rows", empty.read(0), INVALID);
        Sentences.write(full, "A");
        full.cut(0);
        due("fault of 3 without a fault", full.fault(3), INVALID);

        says("A call that returns an error changes nothing.");
        errorsChangeNothing();

        says("If there is no row or route with a certain number, this is INVALID_ARGUMENT.");
        for (int number : new int[] {Integer.MIN_VALUE, -33, -32, -2, -1, 2, 3, 32, 33, 64, Integer.MAX_VALUE}) {
            HandBlinds x = used();
            due("cut(" + number + ")", x.cut(number), INVALID);
            due("swap(" + number + ", 0)", x.swap(number, 0), INVALID);
            due("swap(0, " + number + ")", x.swap(0, number), INVALID);
            due("swap of it with itself", x.swap(number, number), INVALID);
            due("mend(" + number + ")", x.mend(number), INVALID);
            due("rowOf(" + number + ", 0)", x.rowOf(number, 0), INVALID);
            due("letter(" + number + ", 0)", x.letter(number, 0), INVALID);
            due("alike(" + number + ", 0)", x.alike(number, 0), INVALID);
            due("alike(0, " + number + ")", x.alike(0, number), INVALID);
            due("routeOf(" + number + ", 0)", x.routeOf(number, 0), INVALID);
            if (number != -1) {
                due("drive(" + number + ")", x.drive(number), INVALID);
            }
        }
    }

    private static final List<ToIntFunction<HandBlinds>> ERRORS = List.of(x -> x.cut(2), x -> x.cut(-1),
        x -> x.swap(0, 0), x -> x.swap(0, 2), x -> x.swap(-1, 0), x -> x.mend(1), x -> x.mend(2), x -> x.crank(0, 1),
        x -> x.crank(21, 1), x -> x.crank(1, 0), x -> x.crank(1, 4), x -> x.route(0), x -> x.route(4), x -> x.route(-1),
        x -> x.drive(2), x -> x.drive(-2), x -> x.set(3, 5), x -> x.set(-1, 5), x -> x.set(0, 3), x -> x.set(1, 201),
        x -> x.type(31), x -> x.type(127), x -> x.would(0, 1, 0), x -> x.nearest(2), x -> x.read(0), x -> x.read(1000),
        x -> x.count(13), x -> x.fault(3), x -> x.letter(0, -1), x -> x.rowOf(0, 8), x -> x.routeOf(0, 5));

    private static void errorsChangeNothing() {
        String untouched = Sentences.allPictures(used());
        for (int i = 0; i < ERRORS.size(); i++) {
            HandBlinds x = used();
            due("the call " + i + " is an error", ERRORS.get(i).applyAsInt(x) < -1000000 ? 1 : 0, 1);
            Sentences.dueSame("all after the error " + i, Sentences.allPictures(x), untouched);
        }
        HandBlinds bad = used();
        Sentences.write(bad, "OK/bad");
        String before = Sentences.wholePicture(bad);
        due("add of a text with a fault", bad.add(), IMPOSSIBLE);
        Sentences.dueSame("all after it", Sentences.wholePicture(bad), before);
        for (int i = 0; i < 4; i++) {
            bad.route(1);
        }
        before = Sentences.picture(bad);
        due("a seventh route", bad.route(1), LIMIT);
        Sentences.dueSame("all after it", Sentences.picture(bad), before);
        HandBlinds empty = new HandBlinds();
        before = Sentences.wholePicture(empty);
        due("crank without rows", empty.crank(1, 1), IMPOSSIBLE);
        due("undo without states", empty.undo(), IMPOSSIBLE);
        due("cut without rows", empty.cut(0), INVALID);
        due("route without rows", empty.route(1), INVALID);
        Sentences.dueSame("all after these", Sentences.wholePicture(empty), before);
    }
}
