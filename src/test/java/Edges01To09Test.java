/** A test for each sentence of promises 1 to 9, and of the terms behind them, that names a boundary case. */
public final class Edges01To09Test {
    private static final Edges E = new Edges("Edges01To09Test", 1, 9);

    public static void main(String[] args) {
        promise1();
        promise2();
        promise3();
        promise4();
        promise5();
        promise6();
        promise6Growth();
        promise7();
        promise8();
        promise8Number();
        promise8People();
        promise8Keys();
        promise8EachPlace();
        promise9();
        E.end();
    }

    private static YawnKeys college(String text) {
        return Due.collegeOf(text);
    }

    private static void promise1() {
        E.edge(1, "Four doors, keys on nails, nobody.", () -> {
            YawnKeys x = new YawnKeys();
            E.ends("door", YawnKeys::new, (y, door) -> y.at(door, 0), 0, 3, Edges.NONE, Edges.NONE);
            E.due("keys on nails", x.count(4), 15);
            E.due("nobody", x.count(0), 0);
            E.due("nobody keeps any", x.count(6), 0);
            E.due("nobody wants any", x.count(5), 0);
        });
        E.edge(1, "is a number 1 .. 20 (8 at first)", () -> E.due("rule", new YawnKeys().count(2), 8));
        E.edge(1, "It is DAY 0 at first", () -> E.due("day", new YawnKeys().count(1), 0));
        E.edge(1, "is counted (0 at first)", () -> E.due("gone in", new YawnKeys().count(3), 0));
        E.edge(1, "is a number of 31 bits (1 at first)", () -> E.due("draw", new YawnKeys().seed(0), 1));
        E.edge(1, "---- 3 sheets 0 .. 3: nothing (at first)", () -> {
            for (int sheet = 0; sheet < 4; sheet++) {
                E.due("sheet " + sheet, new YawnKeys().drop(sheet), Edges.NULL);
            }
        });
        E.edge(1, "one more of PEOPLE leave nothing to be UNDONE", () -> {
            E.due("nor does a new object", new YawnKeys().count(7), 0);
            E.due("nor does a new object", new YawnKeys().undo(), Edges.NONE);
        });
        E.edge(1, "All is as it was then: 1. NONE: there is none.", () ->
            E.due("no image", new YawnKeys().restore(), Edges.NONE));
        E.edge(1, "One letter more behind THE TAPE: how many it has.", () ->
            E.due("no letter is there", new YawnKeys().type('8'), 1));
        E.edge(1, "An object is used for at most 512 calls after it has been made", () -> {
            YawnKeys x = new YawnKeys();
            for (int i = 0; i < 39; i++) {
                E.due("13 calls, time " + i, Due.college(x, "8/dabcu;0---"), 1);
            }
            E.due("call 508", x.days(40), 3);
            E.due("call 509", x.count(1), 40);
            E.due("call 510", x.count(7), 8);
            E.due("call 511", x.undo(), 7);
            E.due("call 512", x.count(1), 39);
        });
        E.edge(1, "## Promise 1: A new object", () -> {
            String before = Edges.whole(new YawnKeys());
            Edges.whole(Edges.rich());
            E.same("it is new, whatever was done to another one", Edges.whole(new YawnKeys()), before);
        });
    }

    private static void promise2() {
        E.edge(2, "WANT each DOOR by 0 .. 20", () -> {
            E.ends("want", Edges::rich, (x, v) -> x.person(1, v), 0, 20, 3, 3);
            for (int want = 0; want <= 20; want += 20) {
                YawnKeys x = Edges.rich();
                x.person(1, want);
                for (int door = 0; door < 4; door++) {
                    E.due("he wants door " + door + " by as much", x.wants(3, door), want);
                }
            }
        });
        E.edge(2, "are of a KIND", () -> {
            E.ends("kind", Edges::rich, (x, v) -> x.person(v, 7), 0, 4, 3, 3);
            for (int kind = 0; kind < 5; kind++) {
                YawnKeys x = Edges.rich();
                x.person(kind, 7);
                E.due("his kind", x.of(3, 0), kind);
            }
        });
        E.edge(2, "PEOPLE 0 .. 4, as they come", () -> {
            YawnKeys x = new YawnKeys();
            for (int person = 0; person < 5; person++) {
                E.due("the next", x.person(0, person), person);
                E.due("they are", x.count(0), person + 1);
            }
        });
        E.edge(2, "BAD; FULL: 5.", () -> {
            E.refused("a sixth", Edges::five, x -> x.person(0, 0), Edges.FULL);
            E.refused("a sixth of kind -1", Edges::five, x -> x.person(-1, 0), Edges.BAD);
            E.refused("a sixth of kind 5", Edges::five, x -> x.person(5, 0), Edges.BAD);
            E.refused("a sixth who wants by -1", Edges::five, x -> x.person(0, -1), Edges.BAD);
            E.refused("a sixth who wants by 21", Edges::five, x -> x.person(0, 21), Edges.BAD);
            E.refused("both", Edges::rich, x -> x.person(5, 21), Edges.BAD);
        });
        E.edge(2, "One of PEOPLE, who WANTS all DOORS by as much: its number.", () -> {
            YawnKeys x = college("8/daaaa/luuuu;1111");
            Due.college(x, "8/daaaa;----");
            x.person(0, 3);
            E.due("nothing is left of who had that number", x.of(1, 2), 12);
            E.due("nor his kind", x.of(1, 0), 0);
            E.due("nor his keys", x.of(1, 1), 0);
        });
        E.edge(2, "one more of PEOPLE leave nothing to be UNDONE", () -> {
            YawnKeys x = college("20/daaaa;0---");
            x.days(8);
            E.due("all that can be known", x.count(7), 8);
            E.due("one more", x.person(0, 0), 1);
            E.due("nothing is left", x.count(7), 0);
            E.due("nothing is left", x.undo(), Edges.NONE);
            E.due("the day stays", x.count(1), 8);
            E.due("what he wants stays", x.wants(0, 0), 8);
        });
    }

    private static void promise3() {
        E.edge(3, "THE RULE is a number 1 .. 20", () -> {
            E.ends("rule", Edges::rich, (x, v) -> x.rule(v), 1, 20, 6, 6);
            YawnKeys x = new YawnKeys();
            x.rule(1);
            E.due("it is 1", x.count(2), 1);
            x.rule(20);
            E.due("it is 20", x.count(2), 20);
        });
        E.edge(3, "THE RULE becomes v: what it was. BAD.", () -> {
            YawnKeys x = new YawnKeys();
            E.due("the first time", x.rule(8), 8);
            E.due("the same again", x.rule(8), 8);
            E.due("20", x.rule(20), 8);
            E.due("1", x.rule(1), 20);
            E.due("refused", x.rule(0), Edges.BAD);
            E.due("1 stays", x.rule(2), 1);
            E.due("nothing of it is to be undone", x.count(7), 0);
        });
    }

    private static void promise4() {
        E.edge(4, "By how much one WANTS a DOOR. BAD.", () -> {
            Edges.Made two = () -> college("8/dabcd/cuefg;----");
            E.ends("person", two, (x, v) -> x.wants(v, 0), 0, 1, 0, 20);
            E.ends("door", two, (x, v) -> x.wants(0, v), 0, 3, 0, 3);
            E.ends("person of five", Edges::five, (x, v) -> x.wants(v, 3), 0, 4, 0, 20);
            E.refused("the nail is no person", two, x -> x.wants(Edges.NONE, 0), Edges.BAD);
            E.refused("nobody is there", YawnKeys::new, x -> x.wants(0, 0), Edges.BAD);
            E.tells("it only tells", Edges::rich, x -> x.wants(2, 3), 1);
        });
    }

    private static void promise5() {
        Edges.Made two = () -> college("8/oaaaa/buuuu;1111");
        E.edge(5, "Of one: 0 KIND, 1 keys that he keeps (a set), 2 all that he WANTS together. BAD.", () -> {
            E.ends("person", two, (x, v) -> x.of(v, 0), 0, 1, 2, 4);
            E.ends("what", two, (x, v) -> x.of(1, v), 0, 2, 4, 80);
            E.ends("person of five", Edges::five, (x, v) -> x.of(v, 2), 0, 4, 1, 20);
            E.refused("both", two, x -> x.of(2, 3), Edges.BAD);
            E.refused("the nail is no person", () -> college("8/daaaa;----"), x -> x.of(Edges.NONE, 1), Edges.BAD);
            E.refused("nobody is there", YawnKeys::new, x -> x.of(0, 1), Edges.BAD);
            E.tells("it only tells", Edges::rich, x -> x.of(1, 0), 3);
        });
        E.edge(5, "Sets are bits.", () -> {
            E.due("no key", two.make().of(0, 1), 0);
            E.due("all keys", two.make().of(1, 1), 15);
            for (int door = 0; door < 4; door++) {
                YawnKeys x = college("8/daaaa;----");
                x.give(door, 0);
                E.due("key " + door + " alone", x.of(0, 1), 1 << door);
            }
        });
        E.edge(5, "2 all that he WANTS together", () -> {
            E.due("nothing", two.make().of(0, 2), 0);
            E.due("all", two.make().of(1, 2), 80);
        });
    }

    private static void promise6() {
        E.edge(6, "Of a DOOR: 0 who keeps its key (NONE)", () -> {
            Edges.Made made = () -> college("8/daaaa/daaaa/daaaa/daaaa/daaaa;4--0");
            E.ends("door", made, (x, v) -> x.at(v, 0), 0, 3, 4, 0);
            E.ends("what", made, (x, v) -> x.at(0, v), 0, 2, 4, 0);
            E.due("on the nail", made.make().at(1, 0), Edges.NONE);
            E.refused("both", made, x -> x.at(4, 3), Edges.BAD);
            E.tells("it only tells", Edges::rich, x -> x.at(2, 0), Edges.NONE);
        });
        E.edge(6, "(0: the NAIL)", () -> {
            E.due("nobody is there", new YawnKeys().at(0, 1), 0);
            E.due("somebody is there", college("8/laaaa;-000").at(0, 1), 0);
            E.due("and keeps the others", college("8/laaaa;-000").at(1, 1), 6);
        });
        E.edge(6, "who WANTS it least now, of like ones the first; none: there is nobody", () -> {
            E.due("nobody", new YawnKeys().at(3, 2), Edges.NONE);
            E.due("one", college("8/duuuu;----").at(3, 2), 0);
            YawnKeys x = college("8/daubu/daucu/daubu/daucu/dauat;----");
            int[] due = {0, 0, 4, 4};
            for (int door = 0; door < 4; door++) {
                E.due("least of door " + door, x.at(door, 2), due[door]);
            }
            x.talk(0, 0, 1);
            E.due("the next of like ones", x.at(0, 2), 1);
            x.talk(4, 2, 1);
            E.due("the first of three like ones, the last of them included", x.at(2, 2), 0);
        });
    }

    /** By how much more the only one, of a KIND, WANTS door 0 on a DAY, who keeps the keys of the first doors. */
    private static int growth(int kind, int want, int keys, int day) {
        YawnKeys x = new YawnKeys();
        x.rule(20);
        x.person(kind, want);
        if (day > 0) {
            x.days(day);
        }
        for (int door = 0; door < keys; door++) {
            x.give(door, 0);
        }
        int told = x.at(0, 1);
        x.days(1);
        E.due("kind " + kind + " by " + want + ", keys " + keys + ", day " + day + " in the day itself",
                x.wants(0, 0), Math.min(20, want + told));
        return told;
    }

    private static void promise6Growth() {
        E.edge(6, "0 DULL: 1.", () -> {
            for (int keys = 1; keys <= 4; keys++) {
                E.due("keys " + keys, growth(0, 0, keys, 0), 1);
                E.due("keys " + keys + " on day 1", growth(0, 9, keys, 1), 1);
            }
        });
        E.edge(6, "as DULL; 1 more for each other key that he keeps", () -> {
            for (int keys = 1; keys <= 4; keys++) {
                E.due("keys " + keys, growth(1, 0, keys, 0), keys);
                E.due("keys " + keys + " on day 1", growth(1, 9, keys, 1), keys);
            }
        });
        E.edge(6, "as DULL; but nothing on DAYS of an odd number", () -> {
            for (int day = 0; day <= 3; day++) {
                E.due("day " + day, growth(2, 0, 1, day), 1 - day % 2);
                E.due("day " + day + ", all keys, by 9", growth(2, 9, 4, day), 1 - day % 2);
            }
        });
        E.edge(6, "twice what CURIOUS does", () -> {
            for (int keys = 1; keys <= 4; keys++) {
                E.due("keys " + keys, growth(3, 0, keys, 0), 2 * keys);
                E.due("keys " + keys + " on day 1", growth(3, 9, keys, 1), 2 * keys);
            }
        });
        E.edge(6, "as COLD; but nothing, if he WANTS it by 9 or more", () -> {
            E.due("by 0", growth(4, 0, 1, 0), 1);
            E.due("by 8", growth(4, 8, 4, 0), 1);
            E.due("by 8 on an odd day", growth(4, 8, 1, 1), 0);
            E.due("by 9", growth(4, 9, 1, 0), 0);
            E.due("by 10", growth(4, 10, 4, 0), 0);
            E.due("by 20", growth(4, 20, 1, 0), 0);
        });
        E.edge(6, "if he keeps its key (20 at most)", () -> {
            int[] wants = {11, 12, 13, 19, 20};
            int[] due = {19, 20, 20, 20, 20};
            for (int i = 0; i < wants.length; i++) {
                YawnKeys x = new YawnKeys();
                x.rule(20);
                x.person(3, wants[i]);
                for (int door = 0; door < 4; door++) {
                    x.give(door, 0);
                }
                x.days(1);
                E.due("by 8 more than " + wants[i], x.wants(0, 3), due[i]);
            }
            // What at() tells is by KIND alone: the document says 20 at most of the WANT.
            E.due("told of who wants it by 20", college("20/luuuu;0000").at(0, 1), 8);
            YawnKeys y = college("20/laaaa/laaaa;0000");
            y.days(1);
            E.due("who keeps none does not want more", y.of(1, 2), 0);
        });
    }

    private static void promise7() {
        String full = " ".repeat(38) + "8/dabcd;0---";
        Edges.Made fifty = () -> Edges.typed(Edges.richWithoutTape(), full);
        E.edge(7, "BAD: not 32 .. 126", () ->
            E.ends("letter", Edges::rich, (x, v) -> x.type(v), 32, 126, 11, 11));
        E.edge(7, "FULL: 50.", () -> {
            YawnKeys x = new YawnKeys();
            for (int i = 1; i <= 50; i++) {
                E.due("letter " + i, x.type(126), i);
            }
            E.due("one more", x.type(126), Edges.FULL);
            E.refused("one more", fifty, y -> y.type('-'), Edges.FULL);
            E.refused("a blank more", fifty, y -> y.type(' '), Edges.FULL);
            E.refused("31 more", fifty, y -> y.type(31), Edges.BAD);
            E.refused("127 more", fifty, y -> y.type(127), Edges.BAD);
            E.due("all fifty are read", fifty.make().college(), 1);
        });
        E.edge(7, "One letter more behind THE TAPE: how many it has.", () -> {
            YawnKeys x = fifty.make();
            x.college();
            for (int i = 1; i <= 50; i++) {
                E.due("letter " + i + " again", x.type('8'), i);
            }
            E.due("one more again", x.type('8'), Edges.FULL);
        });
    }

    /** A fault at a place; all else stays. */
    private static void fault(String text, int place) {
        E.refused("fault of '" + text + "'", Edges::richWithoutTape, x -> Due.college(x, text), -20 - place);
    }

    private static void taken(String text, int people) {
        E.due("'" + text + "'", Due.college(new YawnKeys(), text), people);
    }

    private static void promise8() {
        E.edge(8, "THE TAPE, which is empty then, is a COLLEGE: how many PEOPLE.", () -> {
            YawnKeys x = Edges.richWithoutTape();
            E.due("a college", Due.college(x, "8/dabcd;0---"), 1);
            E.due("it is empty then", x.type('8'), 1);
            E.due("a fault", x.college(), -21);
            E.due("it is empty then, too", x.type('8'), 1);
        });
        E.edge(8, "A FAULT (all else stays).", () -> {
            fault("", 0);
            fault("20/duuuu/luuuu;11-2", 18);
        });
        E.edge(8, "(the end: how many there are)", () -> {
            String text = "12/dabcu/ouuaa;01--";
            fault(text.substring(0, 0), 0);
            for (int end = 2; end < text.length(); end++) {
                fault(text.substring(0, end), end);
            }
            taken(text, 2);
            fault(" ".repeat(50), 50);
            fault("8/daaaa;---" + " ".repeat(39), 50);
        });
        E.edge(8, "the place of the first letter (behind blanks) that can't stand there", () -> {
            fault("x", 0);
            fault("  x", 2);
            fault("8  x", 3);
            fault("8/  x", 4);
            fault("8/d  v", 5);
            fault("8/daaaa  x", 9);
            fault("8/daaaa;  x", 10);
            fault("8/daaaa;0---  x", 14);
            fault(" ".repeat(49) + "x", 49);
            fault("8/xvvvv;9999", 2);
        });
        E.edge(8, "blanks count for nothing, but end a number", () -> {
            taken(" 8 / d a a a a ; 0 - - - ", 1);
            taken("8/daaaa;0---" + " ".repeat(38), 1);
            taken(" ".repeat(38) + "8/daaaa;0---", 1);
            fault("1 2/daaaa;----", 2);
            fault("1 /daaaa;---", 12);
            fault("0 5/daaaa;----", 0);
        });
        E.edge(8, "in place of all; DAY 0, GONE IN 0 (THE DRAW stays)", () -> {
            YawnKeys x = Edges.richWithoutTape();
            int draw = x.seed(0);
            x.seed(draw);
            E.due("it was a later day", x.count(1) > 0 ? 1 : 0, 1);
            E.due("doors were gone in", x.count(3) > 0 ? 1 : 0, 1);
            E.due("a smaller one", Due.college(x, "1/baaau;---0"), 1);
            int[] due = {1, 0, 1, 0, 7, 20, 1, 0};
            for (int what = 0; what < 8; what++) {
                E.due("count(" + what + ")", x.count(what), due[what]);
            }
            E.due("the draw", x.seed(0), draw);
            E.due("nobody else", x.of(1, 0), Edges.BAD);
            E.due("undo", x.undo(), Edges.NONE);
            E.due("the sheets stay", x.drop(0), 5);
            E.due("the image stays", x.restore(), 1);
            E.due("and what was imaged", x.count(1), 2);
        });
        E.edge(8, "a COLLEGE, one more of PEOPLE leave nothing to be UNDONE", () -> {
            YawnKeys x = college("8/daaaa;----");
            x.days(9);
            E.due("a fault leaves it", Due.college(x, "8/daaaa;---"), -31);
            E.due("all eight", x.count(7), 8);
            Due.college(x, "8/daaaa;----");
            E.due("nothing", x.count(7), 0);
            E.due("nothing", x.undo(), Edges.NONE);
        });
    }

    private static void promise8Number() {
        E.edge(8, "a number 1 .. 20 (THE RULE)", () -> {
            String rest = "/daaaa;----";
            for (int rule = 1; rule <= 20; rule++) {
                E.due("rule " + rule, college(rule + rest).count(2), rule);
            }
            fault("0" + rest, 0);
            fault("00" + rest, 0);
            fault("21" + rest, 0);
            fault("99" + rest, 0);
            fault("  21" + rest, 2);
            fault("21", 0);
            fault("0", 0);
        });
        E.edge(8, "Numbers have 1 or 2 digits (a third one can't stand there).", () -> {
            String rest = "/daaaa;----";
            E.due("01", college("01" + rest).count(2), 1);
            E.due("09", college("09" + rest).count(2), 9);
            fault("010" + rest, 2);
            fault("100" + rest, 2);
            fault("200" + rest, 2);
            fault("  123" + rest, 4);
            fault("123", 2);
        });
        E.edge(8, "or of the number's first digit, if it is not as told", () -> {
            fault("210/daaaa;----", 0);
            fault("000/daaaa;----", 0);
            fault("-1/daaaa;----", 0);
            fault("/daaaa;----", 0);
            fault(":/daaaa;----", 0);
        });
    }

    private static void promise8People() {
        E.edge(8, "then 1 to 5 PEOPLE, each begun by /", () -> {
            StringBuilder text = new StringBuilder("8");
            fault("8;----", 1);
            for (int people = 1; people <= 5; people++) {
                text.append("/daaaa");
                taken(text + ";----", people);
            }
            fault(text + "/daaaa;----", 31);
            fault(text + "/", 31);
            fault("8daaaa;----", 1);
            fault("8//daaaa;----", 2);
            fault("8/daaaa/;----", 8);
            fault("8/daaaadaaaa;----", 7);
        });
        E.edge(8, "d c o l b (DULL, CURIOUS, COLD, LOVER, BLIND)", () -> {
            YawnKeys x = college("8/daaaa/caaaa/oaaaa/laaaa/baaaa;----");
            for (int person = 0; person < 5; person++) {
                E.due("kind", x.of(person, 0), person);
            }
            for (char kind = 33; kind < 127; kind++) {
                if ("dcolb".indexOf(kind) < 0) {
                    E.due("'" + kind + "' is no kind", Due.college(x, "8/" + kind + "aaaa;----"), -22);
                }
            }
        });
        E.edge(8, "four letters a .. u (WANTS of DOORS 0 .. 3: a 0, u 20)", () -> {
            YawnKeys x = college("8/daubt;----");
            int[] due = {0, 20, 1, 19};
            for (int door = 0; door < 4; door++) {
                E.due("door " + door, x.wants(0, door), due[door]);
            }
            for (int door = 0; door < 4; door++) {
                StringBuilder text = new StringBuilder("8/daaaa;----");
                text.setCharAt(3 + door, '`');
                fault(text.toString(), 3 + door);
                text.setCharAt(3 + door, 'v');
                fault(text.toString(), 3 + door);
                text.setCharAt(3 + door, 'A');
                fault(text.toString(), 3 + door);
            }
            fault("8/daaa;----", 6);
            fault("8/d;----", 3);
            fault("8/daaaaa;----", 7);
        });
    }

    private static void promise8Keys() {
        E.edge(8, "then ; and four signs (keys of DOORS): a digit of one there is, or - (the NAIL)", () -> {
            YawnKeys x = college("8/daaaa/daaaa;01-1");
            int[] due = {0, 1, -4, 1};
            for (int door = 0; door < 4; door++) {
                E.due("door " + door, x.at(door, 0), due[door]);
            }
            StringBuilder people = new StringBuilder("8");
            for (int last = 0; last < 5; last++) {
                people.append("/daaaa");
                taken(people + ";---" + last, last + 1);
                fault(people + ";---" + (last + 1), people.length() + 4);
                fault(people + ";" + (last + 1) + "---", people.length() + 1);
            }
            fault("8/daaaa----", 7);
            fault("8/daaaa;;----", 8);
            fault("8/daaaa;---", 11);
            fault("8/daaaa;-----", 12);
            fault("8/daaaa;----0", 12);
            fault("8/daaaa;----;", 12);
            fault("8/daaaa;/---", 8);
            fault("8/daaaa;:---", 8);
            fault("8/daaaa;+---", 8);
        });
    }

    /** Of each place behind the number, what may stand there; any other letter is a fault there. */
    private static void promise8EachPlace() {
        String text = "12/dabcu/ouuaa;01--";
        String wants = "abcdefghijklmnopqrstu";
        String[] may = {"0123456789", "0123456789/", "/", "dcolb", wants, wants, wants, wants, "/;",
            "dcolb", wants, wants, wants, wants, "/;", "-01", "-01", "-01", "-01"};
        E.edge(8, "FAULTS: -20 less the place", () -> {
            for (int place = 0; place < text.length(); place++) {
                for (char letter = 33; letter < 127; letter++) {
                    if (may[place].indexOf(letter) < 0) {
                        StringBuilder other = new StringBuilder(text);
                        other.setCharAt(place, letter);
                        E.due(other.toString(), Due.college(new YawnKeys(), other.toString()), -20 - place);
                    }
                }
            }
        });
    }

    private static void promise9() {
        E.edge(9, "0 PEOPLE, 1 the DAY, 2 THE RULE, 3 how often GONE IN", () -> {
            E.ends("what", Edges::rich, (x, v) -> x.count(v), 0, 7, 3, 5);
            E.due("no people", new YawnKeys().count(0), 0);
            E.due("all people", Edges.five().count(0), 5);
            E.due("the last day", Edges.onDay(9999).count(1), 9999);
            YawnKeys x = college("1/luuuu;0000");
            x.days(40);
            E.due("as often as can be", x.count(3), 160);
        });
        E.edge(9, "4 keys on NAILS (a set)", () -> {
            E.due("none", college("8/daaaa;0000").count(4), 0);
            E.due("all", college("8/daaaa;----").count(4), 15);
            E.due("the first", college("8/daaaa;-000").count(4), 1);
            E.due("the last", college("8/daaaa;000-").count(4), 8);
        });
        E.edge(9, "5 WANTS of all together", () -> {
            E.due("nothing", college("8/daaaa;----").count(5), 0);
            E.due("all", college("8/duuuu/duuuu/duuuu/duuuu/duuuu;----").count(5), 400);
            YawnKeys x = college("8/duuuu/duuuu;----");
            Due.college(x, "8/daaab;----");
            E.due("nothing of who is there no more", x.count(5), 1);
        });
        E.edge(9, "6 who keeps any (a set)", () -> {
            E.due("none", Edges.five().count(6), 0);
            YawnKeys x = Edges.five();
            x.give(0, 4);
            E.due("the last", x.count(6), 16);
            x.give(1, 0);
            E.due("the first, too", x.count(6), 17);
            x.give(2, 0);
            E.due("by two keys", x.count(6), 17);
        });
        E.edge(9, "7 what may be UNDONE. BAD.", () -> {
            YawnKeys x = college("20/daaaa;----");
            E.due("none", x.count(7), 0);
            for (int i = 1; i <= 9; i++) {
                x.talk(0, 0, 1);
                E.due("behind " + i, x.count(7), Math.min(i, 8));
            }
            E.tells("it only tells", Edges::rich, y -> y.count(7), 5);
        });
    }
}
