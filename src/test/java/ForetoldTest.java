/** Promises 16 to 27: what is foretold, planned, asked; images. */
public final class ForetoldTest {
    private static final Due D = new Due("ForetoldTest");
    private static final String[] COLLEGES = {
        "8/daaaa;0---", "5/daceg/lbdfh;01-1", "7/dbgea/cdaif/oacke/lhbca/bfjbd;3014", "1/luuuu/caaaa;0011",
        "12/cabcd/cdcba/lbbbb;0122", "20/luabc/dabcd;00-1", "3/oabcd/bdcba/daaaa;2101"};

    public static void main(String[] args) {
        asItComes();
        badOnes();
        in();
        holds();
        had();
        keep();
        keepOfLikeOnes();
        tempt();
        strict();
        yawn();
        image();
        imageOfWhatMayBeUndone();
        nothingIsChanged();
        D.end();
    }

    /** What is foretold of n days is what comes in them. */
    private static void asItComes() {
        for (String text : COLLEGES) {
            for (int n = 0; n <= 60; n += n < 5 ? 1 : 11) {
                YawnKeys x = Due.collegeOf(text);
                YawnKeys then = Due.collegeOf(text);
                x.days(1);
                then.days(1);
                for (int day = 0; day < n; day++) {
                    then.days(1);
                }
                D.due("18 then(" + n + ") of " + text, x.then(n), then.count(3));
                for (int door = 0; door < 4; door++) {
                    D.due("16 keeper(" + door + ", " + n + ") of " + text, x.keeper(door, n), then.at(door, 0));
                    for (int person = 0; person < x.count(0); person++) {
                        D.due("17 ahead(" + person + ", " + door + ", " + n + ") of " + text,
                                x.ahead(person, door, n), then.wants(person, door));
                    }
                }
            }
        }
        YawnKeys x = Due.collegeOf("8/dhaaa/daaaa;0---");
        D.due("16 behind 0 days", x.keeper(0, 0), 0);
        D.due("16 behind 1 day", x.keeper(0, 1), 1);
        D.due("16 on the nail", x.keeper(1, 60), -4);
        D.due("17 behind 0 days", x.ahead(0, 0, 0), 7);
        D.due("17 behind 1 day", x.ahead(0, 0, 1), 8);
        D.due("17 behind 9 days", x.ahead(1, 0, 9), 8);
        D.due("18 in all", Due.collegeOf("1/duuuu;0000").then(1), 4);
    }

    private static void badOnes() {
        YawnKeys x = Due.collegeOf("8/daaaa;0---");
        int[] wrongDoors = {-1, 4, -4, Integer.MIN_VALUE, Integer.MAX_VALUE};
        for (int door : wrongDoors) {
            D.due("16 door", x.keeper(door, 0), -1);
            D.due("17 door", x.ahead(0, door, 0), -1);
            D.due("19 door", x.in(door), -1);
            D.due("20 door", x.holds(door), -1);
            D.due("21 door", x.had(door, 0), -1);
            D.due("23 door", x.tempt(door, 1), -1);
            D.due("25 door", x.yawn(door, 0, 0), -1);
        }
        int[] wrongDays = {-1, 61, Integer.MIN_VALUE, Integer.MAX_VALUE};
        for (int n : wrongDays) {
            D.due("16 days", x.keeper(0, n), -1);
            D.due("17 days", x.ahead(0, 0, n), -1);
            D.due("18 days", x.then(n), -1);
            D.due("21 days", x.had(0, n), -1);
        }
        int[] wrongPlans = {0, 31, -1, Integer.MIN_VALUE, Integer.MAX_VALUE};
        for (int n : wrongPlans) {
            D.due("22 days", x.keep(n, 0), -1);
            D.due("22 days, nobody", new YawnKeys().keep(n, 0), -1);
            D.due("23 days", x.tempt(0, n), -1);
            D.due("23 days, on the nail", x.tempt(1, n), -1);
            D.due("24 days", x.strict(n), -1);
        }
        D.due("17 no such one", x.ahead(1, 0, 0), -1);
        D.due("17 below 0", x.ahead(-1, 0, 0), -1);
        D.due("22 door 4", x.keep(1, 4), -1);
        D.due("22 door -3", x.keep(1, -3), -1);
        D.due("22 door -4", new YawnKeys().keep(1, -4), -1);
        D.due("25 c -1", x.yawn(0, -1, 0), -1);
        D.due("25 c 11", x.yawn(0, 11, 0), -1);
        D.due("25 what -1", x.yawn(0, 0, -1), -1);
        D.due("25 what 2", x.yawn(0, 0, 2), -1);
    }

    private static void in() {
        D.due("19 the next day", Due.collegeOf("8/dlaaa;0---").in(0), 1);
        D.due("19 the twelfth", Due.collegeOf("8/daaaa;0---").in(0), 12);
        D.due("19 on the nail", Due.collegeOf("8/duaaa;----").in(0), -4);
        D.due("19 another door", Due.collegeOf("8/duaaa;0---").in(1), -4);
        D.due("19 nobody", new YawnKeys().in(3), -4);
        for (int door = 0; door < 4; door++) {
            D.due("19 four in a day", Due.collegeOf("1/duuuu;0000").in(door), 1);
        }
        // COLD grows on even days alone: by 20 on day 38, the 39th day from day 0; from day 1 on day 40, the 40th.
        D.due("19 cold", coldFrom(0).in(0), 39);
        D.due("19 cold from an odd day", coldFrom(1).in(0), 40);
        D.due("19 rule 17", Due.collegeOf("17/duaaa;0---").in(0), -4);
        // By 16 behind 16 days, the other one behind 32; then each hands it back a day later, till 20 on the 39th.
        D.due("19 handed to and fro", Due.collegeOf("16/daaaa/daaaa;0---").in(0), 39);
    }

    /** A COLD one with key 0, rule 16, wants 0, on that day. */
    private static YawnKeys coldFrom(int day) {
        YawnKeys x = Due.collegeOf("16/oaaaa;----");
        if (day > 0) {
            x.days(day);
        }
        x.give(0, 0);
        return x;
    }

    private static void holds() {
        D.due("20 handed on", Due.collegeOf("8/dfaaa/daaaa;0---").holds(0), 3);
        YawnKeys again = Due.collegeOf("8/dfaaa/daaaa;0---");
        D.due("20 handed on", again.holds(0), 3);
        D.due("20 asked again", again.holds(0), 3);
        D.due("20 gone in", Due.collegeOf("8/dlaaa/daaaa;0---").holds(0), 1);
        D.due("20 to himself is not another", Due.collegeOf("8/dhaaa/duaaa;0---").holds(0), 5);
        D.due("20 on the nail", Due.collegeOf("8/daaaa;-0--").holds(0), -4);
        D.due("20 for ever", Due.collegeOf("17/daaaa;0---").holds(0), -4);
        D.due("20 nobody", new YawnKeys().holds(0), -4);
        D.due("20 blind", Due.collegeOf("10/baaaa/daaaa;0---").holds(0), -4);
    }

    private static void had() {
        YawnKeys x = Due.collegeOf("8/dhaaa/daaaa/dbaaa;01--");
        D.due("21 behind 0", x.had(0, 0), 1);
        D.due("21 behind 1", x.had(0, 1), 3);
        D.due("21 behind 8", x.had(0, 8), 3);
        D.due("21 behind 9", x.had(0, 9), 7);
        D.due("21 the other one", x.had(1, 0), 2);
        D.due("21 the nail is nobody", x.had(2, 60), 0);
        D.due("21 nobody", new YawnKeys().had(0, 60), 0);
    }

    /** All ways, tried by giving and living them. */
    private static void keep() {
        for (String text : COLLEGES) {
            for (int n = 1; n <= 30; n += n == 1 ? 4 : 25) {
                YawnKeys x = Due.collegeOf(text);
                x.days(2);
                int people = x.count(0);
                long best = Long.MAX_VALUE;
                for (int way = 0; way < people * people * people * people; way++) {
                    best = Math.min(best, weighed(text, way, people, n));
                }
                D.due("22 keep(" + n + ", -1) of " + text, x.keep(n, -1), best >> 20);
                D.due("22 keep(" + n + ", -2) of " + text, x.keep(n, -2), best >> 16 & 15);
                for (int door = 0; door < 4; door++) {
                    D.due("22 keep(" + n + ", " + door + ") of " + text, x.keep(n, door), best >> 12 - 4 * door & 15);
                }
            }
        }
        for (int door = -2; door < 4; door++) {
            D.due("22 nobody", new YawnKeys().keep(5, door), -4);
        }
    }

    /** How often, how many otherwise, who has each: as one number that rises in the order of choice. */
    private static long weighed(String text, int way, int people, int n) {
        YawnKeys x = Due.collegeOf(text);
        x.days(2);
        int two = people * people;
        int[] has = {way / (two * people), way / two % people, way / people % people, way % people};
        long others = 0;
        for (int door = 0; door < 4; door++) {
            others += x.give(door, has[door]) == -2 ? 0 : 1;
        }
        long often = x.days(n);
        return often << 20 | others << 16 | has[0] << 12 | has[1] << 8 | has[2] << 4 | has[3];
    }

    private static void keepOfLikeOnes() {
        // Nothing is gone in whoever has them: all stays as it is.
        YawnKeys x = Due.collegeOf("20/daaaa/daaaa;1010");
        D.due("22 how often", x.keep(30, -1), 0);
        D.due("22 none otherwise", x.keep(30, -2), 0);
        int[] due = {1, 0, 1, 0};
        for (int door = 0; door < 4; door++) {
            D.due("22 as it is", x.keep(30, door), due[door]);
        }
        // Keys on nails must be given: to the first.
        YawnKeys nails = Due.collegeOf("20/daaaa/daaaa;----");
        D.due("22 all four", nails.keep(1, -2), 4);
        D.due("22 to the first", nails.keep(1, 3), 0);
        // He who wants door 0 and keeps its key would go in; the rest stays.
        YawnKeys one = Due.collegeOf("8/daaaa/duaaa/daaaa;1212");
        D.due("22 how often", one.keep(1, -1), 0);
        D.due("22 one otherwise", one.keep(1, -2), 1);
        D.due("22 the first of like ones", one.keep(1, 0), 0);
        D.due("22 as it is", one.keep(1, 1), 2);
        // Whoever has it, door 0 is gone in: of like ones the first.
        YawnKeys once = Due.collegeOf("1/duaaa/duaaa/duaaa;----");
        D.due("22 how often", once.keep(1, -1), 1);
        D.due("22 all four", once.keep(1, -2), 4);
        for (int door = 0; door < 4; door++) {
            D.due("22 the first", once.keep(1, door), 0);
        }
        YawnKeys kept = Due.collegeOf("1/duaaa/duaaa/duaaa;2-2-");
        D.due("22 two otherwise", kept.keep(1, -2), 2);
        for (int door = 0; door < 4; door++) {
            D.due("22 as it is, or the first", kept.keep(1, door), door % 2 == 0 ? 2 : 0);
        }
        // Four keys make a LOVER want 8 more a day, which by rule 1 is in every day.
        YawnKeys lover = Due.collegeOf("1/laaaa;0000");
        D.due("22 as often as can be", lover.keep(30, -1), 120);
        D.due("22 none otherwise", lover.keep(30, -2), 0);
        // In them alone, not in all.
        one.days(1);
        D.due("22 gone in before", one.count(3), 1);
        D.due("22 none in them", one.keep(1, -1), 0);
    }

    private static void tempt() {
        YawnKeys x = Due.collegeOf("8/daaaa/daaaa;0---");
        D.due("23 in a day", x.tempt(0, 1), 11);
        D.due("23 in two", x.tempt(0, 2), 11);
        D.due("23 on the nail", x.tempt(1, 5), -4);
        D.due("23 by 0", Due.collegeOf("8/dlaaa;0---").tempt(0, 1), 0);
        D.due("23 by 19 on an even day", coldFrom(0).tempt(0, 1), 19);
        D.due("23 none", Due.collegeOf("17/daaaa;0---").tempt(0, 30), -4);
        D.due("23 by 20 on an odd day", coldFrom(1).tempt(0, 1), 20);
        D.due("23 nobody", new YawnKeys().tempt(0, 1), -4);
        // Who is handed the key may go in, too: in 30 days it is gone in without a word.
        D.due("23 by whoever keeps it then", Due.collegeOf("4/dabbb/dabbb;0---").tempt(0, 30), 0);
        YawnKeys himself = Due.collegeOf("8/dhaaa/duaaa;0---");
        D.due("23 handed to himself", himself.tempt(0, 5), 0);
        D.due("23 a day less", himself.tempt(0, 4), 1);
        YawnKeys toAndFro = Due.collegeOf("8/dhaaa/diaaa;0---");
        int[] due = {4, 4, 4, 4, 3, 2, 1, 0};
        for (int n = 1; n <= 8; n++) {
            D.due("23 to and fro in " + n, toAndFro.tempt(0, n), due[n - 1]);
        }
    }

    private static void strict() {
        D.due("24 nobody", new YawnKeys().strict(30), 20);
        D.due("24 at 17 and above nothing is gone in", Due.collegeOf("1/duuuu;0000").strict(30), 20);
        D.due("24 the rule itself does not matter", Due.collegeOf("20/luuuu;0000").strict(1), 20);
        // From 17 on none can go in: the greatest is always 20.
        for (String text : COLLEGES) {
            YawnKeys x = Due.collegeOf(text);
            D.due("24 of " + text, x.strict(30), 20);
            D.due("24 the rule stays", x.count(2), Due.collegeOf(text).count(2));
        }
    }

    private static void yawn() {
        YawnKeys x = Due.collegeOf("8/diaaa/dhiaa/duiia/daiii/diiii;----");
        // Three want door 0, four want 1, three 2, two 3.
        int[][] due = {{343, 1000}, {2401, 10000}, {343, 1000}, {49, 100}};
        for (int door = 0; door < 4; door++) {
            D.due("25 above", x.yawn(door, 3, 0), due[door][0]);
            D.due("25 below", x.yawn(door, 3, 1), due[door][1]);
        }
        D.due("25 lowest terms", x.yawn(0, 5, 0), 1);
        D.due("25 lowest terms", x.yawn(0, 5, 1), 8);
        D.due("25 lowest terms", x.yawn(3, 4, 0), 9);
        D.due("25 lowest terms", x.yawn(3, 4, 1), 25);
        D.due("25 surely", x.yawn(0, 0, 0), 1);
        D.due("25 surely", x.yawn(0, 0, 1), 1);
        D.due("25 never", x.yawn(0, 10, 0), 0);
        D.due("25 never", x.yawn(0, 10, 1), 1);
        x.rule(20);
        D.due("25 one", x.yawn(0, 1, 0), 9);
        D.due("25 one", x.yawn(0, 1, 1), 10);
        D.due("25 none wants it", x.yawn(1, 10, 0), 1);
        D.due("25 none wants it", x.yawn(1, 10, 1), 1);
        D.due("25 nobody", new YawnKeys().yawn(0, 10, 0), 1);
        YawnKeys all = Due.collegeOf("1/duaaa/duaaa/duaaa/duaaa/duaaa;----");
        D.due("25 five", all.yawn(0, 1, 0), 59049);
        D.due("25 five", all.yawn(0, 1, 1), 100000);
    }

    private static void image() {
        YawnKeys x = new YawnKeys();
        D.due("27 none", x.restore(), -4);
        D.due("26 of nobody", x.image(), 1);
        x.person(0, 5);
        D.due("27 nobody again", x.restore(), 1);
        D.due("27 nobody", x.count(0), 0);
        x = Due.collegeOf("5/laceg/dbdfh;01-1");
        x.seed(99);
        x.days(3);
        String before = Due.look(x);
        x.image();
        x.sheet(1, 2, 7);
        x.type('8');
        for (int time = 0; time < 2; time++) {
            x.drift(20);
            x.rule(2);
            x.give(2, 0);
            x.person(1, 1);
            x.seed(3);
            D.due("27 restore", x.restore(), 1);
            D.due("27 as it was: " + Due.look(x), Due.look(x).equals(before) ? 1 : 0, 1);
        }
        D.due("27 the tape stays", x.type('8'), 2);
        D.due("27 sheets stay", x.drop(1), 7);
        Due.college(x, " ");
        Due.college(x, "9/daaaa;----");
        D.due("26 again", x.image(), 1);
        x.restore();
        D.due("27 the later one", x.count(2), 9);
    }

    private static void imageOfWhatMayBeUndone() {
        YawnKeys x = Due.collegeOf("20/daaaa;----");
        for (int i = 0; i < 10; i++) {
            x.talk(0, 0, 1);
        }
        x.image();
        x.restore();
        D.due("27 all eight", x.count(7), 8);
        x.undo();
        x.image();
        x.days(9);
        x.restore();
        D.due("27 what may be undone", x.count(7), 7);
        for (int left = 6; left >= 0; left--) {
            D.due("27 undone", x.undo(), left);
            D.due("27 as ahead of it", x.wants(0, 0), left + 2);
        }
        x.days(9);
        x.restore();
        D.due("27 and again", x.undo(), 6);
        D.due("27 as ahead of it", x.wants(0, 0), 8);
        x.person(0, 0);
        x.restore();
        D.due("27 behind one more of people", x.undo(), 6);
        D.due("27 as ahead of it", x.wants(0, 0), 8);
    }

    private static void nothingIsChanged() {
        for (String text : COLLEGES) {
            YawnKeys x = Due.collegeOf(text);
            x.days(3);
            x.sheet(0, 0, 8);
            String before = Due.look(x);
            for (int door = 0; door < 4; door++) {
                x.keeper(door, 60);
                x.ahead(0, door, 60);
                x.in(door);
                x.holds(door);
                x.had(door, 60);
                x.keep(3, door);
                x.tempt(door, 30);
                x.yawn(door, 3, 0);
                x.film(0, door, 8, 0, 0, 0);
                for (int what = 0; what < 3; what++) {
                    x.told(0, door, 0, 0, 0, 8, what);
                }
            }
            x.then(60);
            x.strict(30);
            x.image();
            D.due("nothing is changed of " + text, Due.look(x).equals(before) ? 1 : 0, 1);
        }
    }
}
