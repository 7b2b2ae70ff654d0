/** Promises 1 to 9: people, doors, the tape. */
public final class PeopleTest {
    private static final Due D = new Due("PeopleTest");

    public static void main(String[] args) {
        newObject();
        person();
        rule();
        wants();
        of();
        at();
        growthByKind();
        type();
        college();
        collegeInPlaceOfAll();
        faults();
        count();
        D.end();
    }

    private static void newObject() {
        YawnKeys x = new YawnKeys();
        long[] due = {0, 0, 8, 0, 15, 0, 0, 0};
        for (int what = 0; what < 8; what++) {
            D.due("1 count(" + what + ")", x.count(what), due[what]);
        }
        for (int door = 0; door < 4; door++) {
            D.due("1 at(" + door + ", 0)", x.at(door, 0), -4);
            D.due("1 at(" + door + ", 1)", x.at(door, 1), 0);
            D.due("1 at(" + door + ", 2)", x.at(door, 2), -4);
        }
        D.due("1 the draw", x.seed(7), 1);
        D.due("1 no image", x.restore(), -4);
        D.due("1 nothing undone", x.undo(), -4);
        for (int sheet = 0; sheet < 4; sheet++) {
            D.due("1 no sheet", x.drop(sheet), -11);
        }
        D.due("1 the tape is empty", x.type('8'), 1);
    }

    private static void person() {
        YawnKeys x = new YawnKeys();
        D.due("2 kind -1", x.person(-1, 0), -1);
        D.due("2 kind 5", x.person(5, 0), -1);
        D.due("2 want -1", x.person(0, -1), -1);
        D.due("2 want 21", x.person(0, 21), -1);
        D.due("2 nobody came", x.count(0), 0);
        int[] wants = {0, 20, 3, 8, 11};
        for (int i = 0; i < 5; i++) {
            D.due("2 person " + i, x.person(i, wants[i]), i);
            D.due("2 his kind", x.of(i, 0), i);
            for (int door = 0; door < 4; door++) {
                D.due("2 his want", x.wants(i, door), wants[i]);
            }
        }
        D.due("2 a sixth", x.person(0, 0), -3);
        D.due("2 a sixth, bad", x.person(5, 0), -1);
        D.due("2 five", x.count(0), 5);
        D.due("2 all keys stay", x.count(4), 15);
        YawnKeys y = new YawnKeys();
        y.person(0, 1);
        y.days(3);
        D.due("2 to be undone", y.count(7), 3);
        y.person(0, 99);
        D.due("2 a refused one leaves it", y.count(7), 3);
        y.person(0, 9);
        D.due("2 one more leaves nothing", y.undo(), -4);
        D.due("2 the day stays", y.count(1), 3);
    }

    private static void rule() {
        YawnKeys x = new YawnKeys();
        D.due("3 rule(1)", x.rule(1), 8);
        D.due("3 rule(20)", x.rule(20), 1);
        D.due("3 rule(0)", x.rule(0), -1);
        D.due("3 rule(21)", x.rule(21), -1);
        D.due("3 rule(-3)", x.rule(-3), -1);
        D.due("3 it stays", x.count(2), 20);
        D.due("3 nothing to be undone", x.count(7), 0);
    }

    private static void wants() {
        YawnKeys x = Due.collegeOf("8/dabcd/cuefg;----");
        int[] due = {0, 1, 2, 3, 20, 4, 5, 6};
        for (int i = 0; i < 8; i++) {
            D.due("4 wants " + i, x.wants(i / 4, i % 4), due[i]);
        }
        D.due("4 no such one", x.wants(2, 0), -1);
        D.due("4 below 0", x.wants(-1, 0), -1);
        D.due("4 no such door", x.wants(0, 4), -1);
        D.due("4 door below 0", x.wants(0, -1), -1);
        D.due("4 nobody", new YawnKeys().wants(0, 0), -1);
    }

    private static void of() {
        YawnKeys x = Due.collegeOf("8/oabcd/bbbbu;1-11");
        D.due("5 kind", x.of(0, 0), 2);
        D.due("5 kind", x.of(1, 0), 4);
        D.due("5 keys, none", x.of(0, 1), 0);
        D.due("5 keys", x.of(1, 1), 13);
        D.due("5 wants", x.of(0, 2), 6);
        D.due("5 wants", x.of(1, 2), 23);
        D.due("5 no such one", x.of(2, 0), -1);
        D.due("5 below 0", x.of(-1, 0), -1);
        D.due("5 the nail is nobody", x.of(-4, 1), -1);
        D.due("5 what 3", x.of(0, 3), -1);
        D.due("5 what -1", x.of(0, -1), -1);
    }

    private static void at() {
        YawnKeys x = Due.collegeOf("8/dcbca/dbbda/dbddb;2-01");
        int[] keepers = {2, -4, 0, 1};
        int[] more = {1, 0, 1, 1};
        int[] least = {1, 0, 0, 0};
        for (int door = 0; door < 4; door++) {
            D.due("6 keeper of " + door, x.at(door, 0), keepers[door]);
            D.due("6 more of " + door, x.at(door, 1), more[door]);
            D.due("6 least of " + door, x.at(door, 2), least[door]);
        }
        D.due("6 door 4", x.at(4, 0), -1);
        D.due("6 door -1", x.at(-1, 0), -1);
        D.due("6 what 3", x.at(0, 3), -1);
        D.due("6 what -1", x.at(0, -1), -1);
    }

    private static void growthByKind() {
        // Each of the kinds keeps key 0; of like ones also keys 1 and 3; on an even day, then on an odd one.
        int[][] due = {{1, 1, 1, 1}, {1, 3, 1, 3}, {1, 1, 0, 0}, {2, 6, 2, 6}, {1, 1, 0, 0}};
        for (int kind = 0; kind < 5; kind++) {
            for (int state = 0; state < 4; state++) {
                YawnKeys x = new YawnKeys();
                x.rule(20);
                x.person(kind, 0);
                x.days(2 + state / 2);
                x.give(0, 0);
                if (state % 2 == 1) {
                    x.give(1, 0);
                    x.give(3, 0);
                }
                D.due("6 kind " + kind + " grows, state " + state, x.at(0, 1), due[kind][state]);
                D.due("6 on the nail", x.at(2, 1), 0);
                x.days(1);
                D.due("6 kind " + kind + " has grown", x.wants(0, 0), due[kind][state]);
                D.due("6 who keeps no key does not grow", x.wants(0, 2), 0);
            }
        }
        YawnKeys blind = Due.collegeOf("20/biiju;00-0");
        D.due("6 blind below 9", blind.at(0, 1), 1);
        D.due("6 blind from 9 on", blind.at(3, 1), 0);
        blind.talk(0, 0, 1);
        D.due("6 blind by 9", blind.at(0, 1), 0);
        YawnKeys lover = Due.collegeOf("20/lrutd;0000");
        lover.days(1);
        D.due("6 20 at most", lover.wants(0, 0), 20);
        D.due("6 20 at most", lover.wants(0, 1), 20);
        D.due("6 twice curious", lover.wants(0, 3), 11);
    }

    private static void type() {
        YawnKeys x = new YawnKeys();
        D.due("7 31", x.type(31), -1);
        D.due("7 127", x.type(127), -1);
        D.due("7 -1", x.type(-1), -1);
        for (int i = 1; i <= 50; i++) {
            D.due("7 letter " + i, x.type(i == 1 ? 126 : 32), i);
        }
        D.due("7 full", x.type(32), -3);
        D.due("7 full, but bad", x.type(10), -1);
        D.due("7 a fault", x.college(), -20);
        D.due("7 empty then", x.type(32), 1);
    }

    private static void college() {
        YawnKeys x = Due.collegeOf("20/dabcd/cefgh/oijkl/lmnop/bqrsu;04-3");
        D.due("8 people", x.count(0), 5);
        D.due("8 rule", x.count(2), 20);
        String letters = "abcdefghijklmnopqrsu";
        for (int i = 0; i < 20; i++) {
            D.due("8 kind", x.of(i / 4, 0), i / 4);
            D.due("8 want " + i, x.wants(i / 4, i % 4), letters.charAt(i) - 'a');
        }
        int[] keys = {0, 4, -4, 3};
        for (int door = 0; door < 4; door++) {
            D.due("8 key", x.at(door, 0), keys[door]);
        }
        D.due("8 blanks", Due.college(x, "  1 / d a bc d;  0 -- 0 "), 1);
        D.due("8 the rule behind blanks", x.count(2), 1);
        D.due("8 nails", x.count(4), 6);
        D.due("8 a leading 0", Due.college(x, "05/daaaa;----"), 1);
        D.due("8 rule 5", x.count(2), 5);
        D.due("8 as long as the tape", Due.college(x, "8/daaaa;----" + " ".repeat(38)), 1);
    }

    private static void collegeInPlaceOfAll() {
        YawnKeys x = new YawnKeys();
        x.seed(77);
        x.person(3, 12);
        x.person(3, 12);
        x.give(0, 0);
        x.give(1, 0);
        x.days(5);
        x.sheet(0, 1, 3);
        x.image();
        D.due("8 gone in before", x.count(3) > 0 ? 1 : 0, 1);
        String before = Due.look(x);
        x.then(60);
        D.due("8 a fault", Due.college(x, "8/daaaa;---"), -31);
        D.due("8 all else stays", before.equals(Due.look(x)) ? 1 : 0, 1);
        x.then(60);
        D.due("8 a college", Due.college(x, "9/daaab;--0-"), 1);
        D.due("8 one is there", x.count(0), 1);
        D.due("8 day 0", x.count(1), 0);
        D.due("8 rule", x.count(2), 9);
        D.due("8 gone in 0", x.count(3), 0);
        D.due("8 nails", x.count(4), 11);
        D.due("8 wants", x.count(5), 1);
        D.due("8 nothing to be undone", x.count(7), 0);
        D.due("8 the draw stays", x.seed(1), 77);
        D.due("8 sheets stay", x.drop(0), 3);
        D.due("8 the image stays", x.restore(), 1);
        YawnKeys fresh = new YawnKeys();
        fresh.seed(78);
        Due.college(fresh, "9/daaab;--0-");
        D.due("8 the draw stays", fresh.seed(1), 78);
        D.due("8 as it was", before.equals(Due.look(x)) ? 1 : 0, 1);
    }

    private static void fault(String text, int place) {
        YawnKeys x = new YawnKeys();
        D.due("8 fault of \"" + text + "\"", Due.college(x, text), -20 - place);
        D.due("8 nothing has come of it", x.count(0) * 100 + x.count(2), 8);
        D.due("8 the tape is empty", x.type(32), 1);
    }

    private static void faults() {
        fault("", 0);
        fault("   ", 3);
        fault("  x", 2);
        fault("/daaaa;----", 0);
        fault("0/daaaa;----", 0);
        fault(" 21/daaaa;----", 1);
        fault("00/daaaa;----", 0);
        fault("99", 0);
        fault("210/daaaa;----", 0);
        fault("200/daaaa;----", 2);
        fault("005/daaaa;----", 0);
        fault("1 2/daaaa;----", 2);
        fault("8", 1);
        fault("8  ", 3);
        fault("8;----", 1);
        fault("8/", 2);
        fault("8/xaaaa;----", 2);
        fault("8/Daaaa;----", 2);
        fault("8/ d v", 5);
        fault("8/daaa;----", 6);
        fault("8/da`aa;----", 4);
        fault("8/dauva;----", 5);
        fault("8/daaaaa;----", 7);
        fault("8/daaaa/;----", 8);
        fault("8/daaaa", 7);
        fault("8/daaaa ", 8);
        fault("8/daaaa;", 8);
        fault("8/daaaa;0--", 11);
        fault("8/daaaa;1---", 8);
        fault("8/daaaa;0/--", 9);
        fault("8/daaaa;0-:-", 10);
        fault("8/daaaa;0--- -", 13);
        fault("8/daaaa;0----", 12);
        fault("8/daaaa/daaaa;012-", 16);
        fault("8/daaaa/daaaa/daaaa/daaaa/daaaa/daaaa;----", 31);
        fault("8/daaaa/daaaa/daaaa/daaaa/daaaa;5---", 32);
        fault("8/daaaa,----", 7);
    }

    private static void count() {
        YawnKeys x = Due.collegeOf("7/dabcd/caaaa/obbbb;1-12");
        int[] due = {3, 0, 7, 0, 2, 10, 6, 0};
        for (int what = 0; what < 8; what++) {
            D.due("9 count(" + what + ")", x.count(what), due[what]);
        }
        D.due("9 who keeps key 0", Due.collegeOf("7/daaaa;0---").count(6), 1);
        x.talk(1, 0, 20);
        x.days(2);
        int[] later = {3, 2, 7, 1, 2, 0, 0, 3};
        for (int what = 0; what < 8; what++) {
            if (later[what] != 0) {
                D.due("9 later count(" + what + ")", x.count(what), later[what]);
            }
        }
        D.due("9 count(8)", x.count(8), -1);
        D.due("9 count(-1)", x.count(-1), -1);
    }
}
