import java.io.IOException;
import java.nio.file.Files;
import java.nio.file.Path;
import java.util.Set;
import java.util.TreeSet;

/**
 * Tests of boundary cases, each named by a promise's number and the document's own words, which must stand in the
 * document. Run from the project's folder, as .ci/run does.
 */
final class Edges {
    static final int BAD = -1, NOT = -2, FULL = -3, NONE = -4, NULL = -11, CAST = -12, INDEX = -13, SIZE = -14;
    private static final Path DOCUMENT = Path.of("../shared/DOC.md");

    interface Made {
        YawnKeys make();
    }

    interface Call {
        int on(YawnKeys x);
    }

    interface NumberCall {
        int on(YawnKeys x, int v);
    }

    private final Due due;
    private final int first;
    private final int last;
    private final String document;
    private final Set<Integer> tested = new TreeSet<>();
    private String name = "";

    /** Of promises first to last, each of which must have been tested in the end. */
    Edges(String test, int first, int last) {
        due = new Due(test);
        this.first = first;
        this.last = last;
        document = read();
    }

    private static String read() {
        try {
            return Files.readString(DOCUMENT);
        } catch (IOException e) {
            throw new IllegalStateException(DOCUMENT + " can't be read", e);
        }
    }

    /** One test of a promise, by words of the document. */
    void edge(int promise, String words, Runnable test) {
        tested.add(promise);
        name = "promise " + promise + " \"" + words + "\": ";
        due("these words stand in the document", document.contains(words) ? 1 : 0, 1);
        test.run();
    }

    void end() {
        name = "";
        for (int promise = first; promise <= last; promise++) {
            due("promise " + promise + " has a test", tested.contains(promise) ? 1 : 0, 1);
        }
        due.end();
    }

    void due(String what, long got, long want) {
        due.due(name + what, got, want);
    }

    void same(String what, String got, String want) {
        due(got.equals(want) ? what : what + ": it is " + got + " in place of " + want, got.equals(want) ? 1 : 0, 1);
    }

    /** What is refused changes nothing: the object is then as one that was never asked. */
    void refused(String what, Made made, Call call, int answer) {
        YawnKeys x = made.make();
        due(what, call.on(x), answer);
        same(what + " changes nothing", whole(x), whole(made.make()));
    }

    /** A call that only tells: it is not refused, and changes nothing. */
    void tells(String what, Made made, Call call, int answer) {
        refused(what, made, call, answer);
    }

    /** The least and the greatest number are just still taken; what is beyond them is BAD. */
    void ends(String what, Made made, NumberCall call, int least, int most, int dueAtLeast, int dueAtMost) {
        due(what + " " + least + " is just still taken", call.on(made.make(), least), dueAtLeast);
        due(what + " " + most + " is just still taken", call.on(made.make(), most), dueAtMost);
        int[] beyond = {least - 1, most + 1, Integer.MIN_VALUE, Integer.MAX_VALUE};
        for (int v : beyond) {
            refused(what + " " + v, made, x -> call.on(x, v), BAD);
        }
    }

    /**
     * A college with something of everything: three of PEOPLE on an odd DAY, a key on the NAIL, DOORS GONE IN, five
     * things to be UNDONE, an IMAGE that is otherwise, a begun text on THE TAPE, three SHEETS.
     */
    static YawnKeys rich() {
        YawnKeys x = richWithoutTape();
        typed(x, "9/dabcu;0-");
        return x;
    }

    static YawnKeys richWithoutTape() {
        YawnKeys x = Due.collegeOf("5/dbcde/lbibc/obbaa;01-1");
        x.seed(4711);
        x.days(2);
        x.image();
        x.rule(6);
        x.talk(0, 3, 2);
        x.give(0, 2);
        x.drift(1);
        sheetOf(x, 0, 0, 3, 1, 4, 1, 5);
        sheetOf(x, 2, 2, 9, 2, 6, 5, 3, 5, 8, 9);
        x.sheet(3, 3, 0);
        return x;
    }

    /** As many PEOPLE as there may be, DULL ones who WANT nothing, keys on NAILS, two things to be UNDONE. */
    static YawnKeys five() {
        YawnKeys x = Due.collegeOf("8/daaaa/daaaa/daaaa/daaaa/daaaa;----");
        x.talk(0, 0, 1);
        x.talk(4, 3, 20);
        return x;
    }

    static YawnKeys typed(YawnKeys x, String text) {
        for (int i = 0; i < text.length(); i++) {
            x.type(text.charAt(i));
        }
        return x;
    }

    /** A SHEET holds a row of a LANE with these items. */
    static void sheetOf(YawnKeys x, int sheet, int lane, int... items) {
        x.sheet(sheet, lane, items.length);
        for (int i = 0; i < items.length; i++) {
            x.item(sheet, lane, i, items[i]);
        }
    }

    /** Nobody, on a DAY: at most 250 calls, as an object is good for 512. */
    static YawnKeys onDay(int day) {
        YawnKeys x = new YawnKeys();
        for (int left = day; left > 0; left -= 40) {
            x.days(Math.min(40, left));
        }
        return x;
    }

    /** All that the face can tell, and what is known of before, the IMAGE, THE TAPE and SHEETS: the object is spent. */
    static String whole(YawnKeys x) {
        StringBuilder seen = new StringBuilder(Due.look(x));
        undone(x, seen);
        seen.append(" image ").append(x.restore()).append(": ").append(Due.look(x));
        undone(x, seen);
        seen.append(" tape ").append(x.type('-')).append(' ').append(x.type('-')).append(' ').append(x.college());
        seen.append(": ").append(Due.look(x));
        for (int sheet = 0; sheet < 4; sheet++) {
            seen.append(" sheet ").append(sheet).append(": ").append(row(x, sheet));
        }
        return seen.toString();
    }

    private static void undone(YawnKeys x, StringBuilder seen) {
        int people = x.count(0);
        for (int left = x.undo(); left >= 0; left = x.undo()) {
            seen.append(" undone, ").append(left).append(" left: ").append(x.count(1)).append(' ').append(x.count(3));
            for (int i = 0; i < people * 4; i++) {
                seen.append(' ').append(x.wants(i / 4, i % 4));
            }
            for (int door = 0; door < 4; door++) {
                seen.append(' ').append(x.at(door, 0));
            }
            int draw = x.seed(0);
            x.seed(draw);
            seen.append(" draw ").append(draw);
        }
    }

    /** A SHEET's LANE and items: those that are 0 .. 20 by what they are, any other by -1. */
    static String row(YawnKeys x, int sheet) {
        if (x.count(0) == 0) {
            x.person(0, 0);
        }
        // Who keeps no key of a DOOR WANTS it tomorrow as he does today.
        x.give(1, NONE);
        int lane = 0;
        while (lane < 3 && x.told(0, 1, sheet, lane, 0, 1, 1) == CAST) {
            lane++;
        }
        StringBuilder seen = new StringBuilder().append("lane ").append(lane);
        for (int i = 0; i < 24 && x.told(0, 1, sheet, lane, i, 1, 1) >= 0; i++) {
            int wants = x.told(0, 1, sheet, lane, i, 1, 1);
            seen.append(' ').append(wants == 0 ? -1 : Integer.numberOfTrailingZeros(wants));
        }
        return seen.append(" end ").append(x.told(0, 1, sheet, lane, 24, 1, 1)).toString();
    }
}
