import java.util.Random;

/** Long runs of calls by lot, at most 512 on an object, each answer held against the Model's. */
public final class RandomRunsTest {
    private static final String[] NAMES = {
        "person", "rule", "wants", "of", "at", "type", "college", "count", "days", "talk", "give", "drift", "undo",
        "seed", "keeper", "ahead", "then", "in", "holds", "had", "keep", "tempt", "strict", "yawn", "image", "restore",
        "told", "film", "sheet", "drop", "item", "copy"};
    private static final int[] WILD = {
        Integer.MIN_VALUE, -100, -5, -4, -3, -2, -1, 0, 1, 5, 21, 25, 31, 41, 61, 127, 10000, Integer.MAX_VALUE};
    private static final Due D = new Due("RandomRunsTest");

    private final Random lot;
    private final YawnKeys x = new YawnKeys();
    private final Model m = new Model();
    private final int[] a = new int[7];

    private RandomRunsTest(long seed) {
        lot = new Random(seed);
    }

    public static void main(String[] args) {
        for (int run = 0; run < 600; run++) {
            new RandomRunsTest(run).run(run);
        }
        D.end();
    }

    private void run(int run) {
        int calls = 0;
        while (calls < 430) {
            if (lot.nextInt(40) == 0) {
                calls += typeCollege(run);
            } else {
                call(run, lot.nextInt(NAMES.length));
                calls++;
            }
        }
    }

    private int upTo(int most) {
        return lot.nextInt(60) == 0 ? WILD[lot.nextInt(WILD.length)] : lot.nextInt(most + 1);
    }

    private int from(int least, int most) {
        return lot.nextInt(60) == 0 ? WILD[lot.nextInt(WILD.length)] : least + lot.nextInt(most - least + 1);
    }

    private int one() {
        return lot.nextInt(30) == 0 ? upTo(5) : lot.nextInt(Math.max(1, m.count(0)));
    }

    /** A college, mostly one as told; now and then a letter is another, missing, or a blank more. */
    private int typeCollege(int run) {
        StringBuilder text = new StringBuilder().append(lot.nextInt(12) == 0 ? lot.nextInt(300) : 1 + lot.nextInt(20));
        int people = 1 + lot.nextInt(5);
        for (int p = 0; p < people; p++) {
            text.append('/').append("dcolb".charAt(lot.nextInt(5)));
            for (int d = 0; d < 4; d++) {
                text.append((char) ('a' + lot.nextInt(lot.nextInt(2) == 0 ? 21 : 6)));
            }
        }
        text.append(';');
        for (int d = 0; d < 4; d++) {
            text.append("01234-".charAt(lot.nextInt(4) == 0 ? 5 : lot.nextInt(people)));
        }
        for (int change = lot.nextInt(3) - 1; change > 0; change--) {
            int place = lot.nextInt(text.length());
            switch (lot.nextInt(4)) {
                case 0: text.insert(place, ' '); break;
                case 1: text.deleteCharAt(place); break;
                case 2: text.setCharAt(place, "019/;- adcvuz".charAt(lot.nextInt(13))); break;
                default: text.append(lot.nextInt(2) == 0 ? ' ' : '-'); break;
            }
        }
        for (int i = 0; i < text.length(); i++) {
            D.due("run " + run + " type", x.type(text.charAt(i)), m.type(text.charAt(i)));
        }
        D.due("run " + run + " college of " + text, x.college(), m.college());
        return text.length() + 1;
    }

    private void call(int run, int which) {
        String name = NAMES[which];
        for (int i = 0; i < a.length; i++) {
            a[i] = 0;
        }
        int due = which < 14 ? doneOrAsked(name, false) : foretoldOrSheets(name, false);
        int got = which < 14 ? doneOrAsked(name, true) : foretoldOrSheets(name, true);
        D.due("run " + run + " " + name + java.util.Arrays.toString(a), got, due);
    }

    /** The class is asked with the numbers that were drawn for the model. */
    private void draw(boolean again, int... numbers) {
        if (!again) {
            System.arraycopy(numbers, 0, a, 0, numbers.length);
        }
    }

    private int doneOrAsked(String name, boolean own) {
        switch (name) {
            case "person": draw(own, upTo(4), upTo(20)); return own ? x.person(a[0], a[1]) : m.person(a[0], a[1]);
            case "rule": draw(own, from(1, 20)); return own ? x.rule(a[0]) : m.rule(a[0]);
            case "wants": draw(own, one(), upTo(3)); return own ? x.wants(a[0], a[1]) : m.wants(a[0], a[1]);
            case "of": draw(own, one(), upTo(2)); return own ? x.of(a[0], a[1]) : m.of(a[0], a[1]);
            case "at": draw(own, upTo(3), upTo(2)); return own ? x.at(a[0], a[1]) : m.at(a[0], a[1]);
            case "type": draw(own, lot.nextInt(9) > 0 ? 32 : from(30, 128)); return own ? x.type(a[0]) : m.type(a[0]);
            case "college": return own ? x.college() : m.college();
            case "count": draw(own, upTo(7)); return own ? x.count(a[0]) : m.count(a[0]);
            case "days": draw(own, from(1, lot.nextInt(4) == 0 ? 40 : 5)); return own ? x.days(a[0]) : m.days(a[0]);
            case "talk": draw(own, one(), upTo(3), from(1, 20));
                return own ? x.talk(a[0], a[1], a[2]) : m.talk(a[0], a[1], a[2]);
            case "give": draw(own, upTo(3), lot.nextInt(6) == 0 ? -4 : one());
                return own ? x.give(a[0], a[1]) : m.give(a[0], a[1]);
            case "drift": draw(own, from(1, lot.nextInt(4) == 0 ? 40 : 5)); return own ? x.drift(a[0]) : m.drift(a[0]);
            case "undo": return own ? x.undo() : m.undo();
            default: draw(own, lot.nextInt()); return own ? x.seed(a[0]) : m.seed(a[0]);
        }
    }

    private int foretoldOrSheets(String name, boolean own) {
        switch (name) {
            case "keeper": draw(own, upTo(3), upTo(60)); return own ? x.keeper(a[0], a[1]) : m.keeper(a[0], a[1]);
            case "ahead": draw(own, one(), upTo(3), upTo(60));
                return own ? x.ahead(a[0], a[1], a[2]) : m.ahead(a[0], a[1], a[2]);
            case "then": draw(own, upTo(60)); return own ? x.then(a[0]) : m.then(a[0]);
            case "in": draw(own, upTo(3)); return own ? x.in(a[0]) : m.in(a[0]);
            case "holds": draw(own, upTo(3)); return own ? x.holds(a[0]) : m.holds(a[0]);
            case "had": draw(own, upTo(3), upTo(60)); return own ? x.had(a[0], a[1]) : m.had(a[0], a[1]);
            case "keep": draw(own, from(1, lot.nextInt(8) == 0 ? 30 : 9), from(-2, 3));
                return own ? x.keep(a[0], a[1]) : m.keep(a[0], a[1]);
            case "tempt": draw(own, upTo(3), from(1, 30)); return own ? x.tempt(a[0], a[1]) : m.tempt(a[0], a[1]);
            case "strict": draw(own, from(1, 30)); return own ? x.strict(a[0]) : m.strict(a[0]);
            case "yawn": draw(own, upTo(3), upTo(10), upTo(1));
                return own ? x.yawn(a[0], a[1], a[2]) : m.yawn(a[0], a[1], a[2]);
            case "image": return own ? x.image() : m.image();
            case "restore": return own ? x.restore() : m.restore();
            default: return sheets(name, own);
        }
    }

    private int sheets(String name, boolean own) {
        switch (name) {
            case "told": return told(own);
            case "film": draw(own, one(), upTo(3), from(1, 24), upTo(3), upTo(3), upTo(8));
                return own ? x.film(a[0], a[1], a[2], a[3], a[4], a[5]) : m.film(a[0], a[1], a[2], a[3], a[4], a[5]);
            case "sheet": draw(own, upTo(3), upTo(3), from(-1, 24));
                return own ? x.sheet(a[0], a[1], a[2]) : m.sheet(a[0], a[1], a[2]);
            case "drop": draw(own, upTo(3)); return own ? x.drop(a[0]) : m.drop(a[0]);
            case "item": draw(own, upTo(3), upTo(3), upTo(24), lot.nextInt(3) == 0 ? lot.nextInt() : upTo(20));
                return own ? x.item(a[0], a[1], a[2], a[3] * 65537L) : m.item(a[0], a[1], a[2], a[3] * 65537L);
            default: draw(own, upTo(3), upTo(12), upTo(3), upTo(12), upTo(12));
                return own ? x.copy(a[0], a[1], a[2], a[3], a[4]) : m.copy(a[0], a[1], a[2], a[3], a[4]);
        }
    }

    /** A row as it comes is filmed first, else hardly any would fit. */
    private int told(boolean own) {
        draw(own, one(), upTo(3), upTo(3), upTo(3), upTo(3), from(1, 8), upTo(2));
        if (lot.nextInt(2) == 0 && !own) {
            int made = x.sheet(a[2], a[3], 24);
            D.due("sheet", made, m.sheet(a[2], a[3], 24));
            int filmed = x.film(a[0], a[1], 12, a[2], a[3], a[4]);
            D.due("film", filmed, m.film(a[0], a[1], 12, a[2], a[3], a[4]));
        }
        return own ? x.told(a[0], a[1], a[2], a[3], a[4], a[5], a[6])
                : m.told(a[0], a[1], a[2], a[3], a[4], a[5], a[6]);
    }
}
