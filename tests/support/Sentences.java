import java.util.Set;
import java.util.TreeSet;

/** Tests told sentence by sentence: an answer that is not due is printed with the sentence that it breaks. */
final class Sentences {
    static final int INVALID = HandBlinds.INVALID_ARGUMENT;
    static final int IMPOSSIBLE = HandBlinds.NOT_POSSIBLE;
    static final int LIMIT = HandBlinds.LIMIT_REACHED;
    static final int MISSING = HandBlinds.NOT_FOUND;

    /** Twenty names, more than half of a text long. */
    static final String TWENTY = "A/B/C/D/E/F/G/H/I/J/K/L/M/N/O/P/Q/R/S/T";
    static final String NINETEEN = "A/B/C/D/E/F/G/H/I/J/K/L/M/N/O/P/Q/R/S";

    private static final Set<String> TOLD = new TreeSet<>();
    private static String sentence = "";
    private static int answersOfSentence = 1;
    private static int answers = 0;
    private static int wrong = 0;

    private Sentences() {
    }

    /** Begins the test of a sentence; a sentence that is told without any answer is a fault of the tests. */
    static void says(String text) {
        noteIfUntested();
        if (!TOLD.add(text)) {
            wrong++;
            System.out.println(text + ": is told twice");
        }
        sentence = text;
        answersOfSentence = 0;
    }

    private static void noteIfUntested() {
        if (answersOfSentence == 0) {
            wrong++;
            System.out.println(sentence + ": has no test");
        }
    }

    static void due(String call, long got, long want) {
        answersOfSentence++;
        answers++;
        if (got != want) {
            wrong++;
            System.out.println("'" + sentence + "': " + call + " answered " + got + ", due is " + want);
        }
    }

    static void dueSame(String what, String got, String want) {
        due(what + " is the same", got.equals(want) ? 1 : 0, 1);
    }

    static void finish() {
        noteIfUntested();
        System.out.println(wrong == 0 ? TOLD.size() + " sentences hold, by " + answers + " answers"
            : wrong + " answers are not as due");
        if (wrong != 0) {
            System.exit(1);
        }
    }

    static void write(HandBlinds x, String text) {
        x.clearText();
        for (int i = 0; i < text.length(); i++) {
            x.type(text.charAt(i));
        }
    }

    static int addNames(HandBlinds x, String names) {
        write(x, names);
        return x.add();
    }

    static HandBlinds roll(String names) {
        HandBlinds x = new HandBlinds();
        addNames(x, names);
        return x;
    }

    /** Tears the row that is shown, by way of a row up the numbers, and shows it again. */
    static void tearShown(HandBlinds x) {
        int strength = x.set(1, 1);
        x.crank(1, 2);
        x.crank(-1, 1);
        x.set(1, strength);
    }

    static void dueFault(HandBlinds x, String text, int place, int reason, int cause) {
        write(x, text);
        due("fault(0) of '" + text + "'", x.fault(0), place);
        due("fault(1) of '" + text + "'", x.fault(1), reason);
        due("fault(2) of '" + text + "'", x.fault(2), cause);
    }

    static void dueNoFault(HandBlinds x, String text) {
        write(x, text);
        due("fault(0) of '" + text + "'", x.fault(0), MISSING);
    }

    static String nameOf(HandBlinds x, int row) {
        StringBuilder name = new StringBuilder();
        for (int i = 0; i < x.rowOf(row, 0); i++) {
            name.append((char) x.letter(row, i));
        }
        return name.toString();
    }

    /** The names of all rows, with "/" between two. */
    static String namesOf(HandBlinds x) {
        StringBuilder names = new StringBuilder();
        for (int row = 0; row < x.count(0); row++) {
            names.append(row == 0 ? "" : "/").append(nameOf(x, row));
        }
        return names.toString();
    }

    /** All that can be told of an object but its text and its history. */
    static String picture(HandBlinds x) {
        StringBuilder all = new StringBuilder(namesOf(x));
        for (int what = 0; what <= 22; what++) {
            if (what < 11 || what > 19) {
                all.append(' ').append(x.count(what));
            }
        }
        for (int row = 0; row < x.count(0); row++) {
            for (int what = 0; what <= 7; what++) {
                all.append(' ').append(x.rowOf(row, what));
            }
        }
        for (int route = 0; route < x.count(2); route++) {
            for (int what = 0; what <= 4; what++) {
                all.append(' ').append(x.routeOf(route, what));
            }
        }
        return all.toString();
    }

    /** The picture with the text and the number of states. */
    static String wholePicture(HandBlinds x) {
        StringBuilder all = new StringBuilder(picture(x));
        all.append(" text ").append(x.count(12)).append(' ').append(x.find());
        for (int what = 0; what <= 2; what++) {
            all.append(' ').append(x.fault(what));
        }
        return all.append(" states ").append(x.count(11)).toString();
    }

    /** The pictures of the present state and of all states of the history, which is used up by it. */
    static String allPictures(HandBlinds x) {
        StringBuilder all = new StringBuilder(wholePicture(x));
        for (int i = 0; i < 8 && x.undo() >= 0; i++) {
            all.append('\n').append(picture(x));
        }
        return all.toString();
    }
}
