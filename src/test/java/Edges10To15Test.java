import java.math.BigInteger;

/** A test for each sentence of promises 10 to 15, and of the terms behind them, that names a boundary case. */
public final class Edges10To15Test {
    private static final Edges E = new Edges("Edges10To15Test", 10, 15);

    public static void main(String[] args) {
        promise10();
        promise10LastDay();
        promise10GoneIn();
        promise10HandedOn();
        promise10AheadOfIt();
        promise11();
        promise12();
        promise13();
        promise13LastDay();
        promise13Draw();
        promise14();
        promise14WhatIsAsAhead();
        promise15();
        E.end();
    }

    private static YawnKeys college(String text) {
        return Due.collegeOf(text);
    }

    private static void promise10() {
        E.edge(10, "n DAYS (1 .. 40", () -> {
            // In on the first day, then by 5 on each fifth of the 39 others.
            E.ends("n", () -> college("1/duaaa;0---"), (x, v) -> x.days(v), 1, 40, 1, 8);
            E.ends("n with something of everything", Edges::rich, (x, v) -> x.days(v) < 0 ? Edges.BAD : 0, 1, 40, 0, 0);
            YawnKeys x = new YawnKeys();
            x.days(1);
            E.due("the next day", x.count(1), 1);
            x.days(40);
            E.due("forty more", x.count(1), 41);
        });
        E.edge(10, "each by itself may be UNDONE", () -> {
            YawnKeys x = college("20/daaaa;0---");
            x.days(7);
            E.due("seven", x.count(7), 7);
            E.due("one of them undone", x.undo(), 6);
            E.due("six days", x.count(1), 6);
            E.due("by 6", x.wants(0, 0), 6);
            x.days(40);
            E.due("eight of them", x.count(7), 8);
        });
        E.edge(10, "how often DOORS were GONE IN in them", () -> {
            YawnKeys x = college("1/duuuu;0000");
            E.due("all four", x.days(1), 4);
            E.due("not those of before", x.days(4), 0);
            E.due("all four again", x.days(1), 4);
            E.due("in all", x.count(3), 8);
            E.due("as often as can be", college("1/luuuu;0000").days(40), 160);
            E.due("nobody", new YawnKeys().days(40), 0);
        });
    }

    private static void promise10LastDay() {
        E.edge(10, "FULL: the DAY would be above 9999.", () -> {
            YawnKeys x = Edges.onDay(9959);
            E.due("forty to 9999", x.days(40), 0);
            E.due("9999", x.count(1), 9999);
            E.due("thirty-nine to 9999", Edges.onDay(9960).days(39), 0);
            E.due("one to 9999", Edges.onDay(9998).days(1), 0);
            E.refused("forty to 10000", () -> Edges.onDay(9960), y -> y.days(40), Edges.FULL);
            E.refused("two to 10000", () -> Edges.onDay(9998), y -> y.days(2), Edges.FULL);
            E.refused("one to 10000", () -> Edges.onDay(9999), y -> y.days(1), Edges.FULL);
            E.refused("forty to 10039", () -> Edges.onDay(9999), y -> y.days(40), Edges.FULL);
        });
        E.edge(10, "BAD; FULL: the DAY would be above 9999.", () -> {
            int[] wrong = {0, -1, 41, Integer.MIN_VALUE, Integer.MAX_VALUE};
            for (int n : wrong) {
                E.refused("n " + n, () -> Edges.onDay(9999), x -> x.days(n), Edges.BAD);
            }
        });
        E.edge(10, "It is the next DAY.", () -> {
            YawnKeys x = Edges.onDay(9998);
            x.person(2, 0);
            x.give(0, 0);
            E.due("on 9998 COLD wants more", x.at(0, 1), 1);
            x.days(1);
            E.due("by 1", x.wants(0, 0), 1);
            E.due("on 9999 nothing", x.at(0, 1), 0);
            E.due("a day undone", x.undo(), 1);
            E.due("it is 9998", x.count(1), 9998);
            E.due("9999 again", x.days(1), 0);
        });
    }

    private static void promise10GoneIn() {
        E.edge(10, "if its keeper WANTS it by THE RULE and 4, or more, he GOES IN", () -> {
            for (int rule = 1; rule <= 16; rule++) {
                char below = (char) ('a' + rule + 2);
                char just = (char) ('a' + rule + 3);
                E.due("rule and 3, rule " + rule, college(rule + "/d" + below + "aaa;0---").days(1), 0);
                E.due("rule and 4, rule " + rule, college(rule + "/d" + just + "aaa;0---").days(1), 1);
            }
            E.due("20 by rule 1", college("1/duaaa;0---").days(1), 1);
            E.due("20 by rule 16", college("16/duuuu;0000").days(40), 8);
            for (int rule = 17; rule <= 20; rule++) {
                E.due("20 by rule " + rule, college(rule + "/luuuu;0000").days(40), 0);
            }
        });
        E.edge(10, "(one more that was GONE IN), and WANTS it by 0 then", () -> {
            YawnKeys x = college("8/dlkau/daaaa;00--");
            E.due("one", x.days(1), 1);
            E.due("counted", x.count(3), 1);
            E.due("by 0", x.wants(0, 0), 0);
            E.due("he keeps the key", x.at(0, 0), 0);
            E.due("another door is wanted as before", x.wants(0, 1), 11);
            E.due("one that he keeps no key of, too", x.wants(0, 3), 20);
        });
        E.edge(10, "from 0 on, whose key is kept", () -> {
            YawnKeys x = college("1/duuuu;----");
            E.due("none whose key is on the nail", x.days(40), 0);
            E.due("which nobody wants more or less", x.count(5), 80);
            for (int door = 0; door < 4; door++) {
                YawnKeys y = college("1/duuuu;----");
                y.give(door, 0);
                E.due("door " + door + " alone", y.days(1), 1);
                E.due("door " + door + " by 0", y.wants(0, door), 0);
            }
        });
    }

    private static void promise10HandedOn() {
        E.edge(10, "Else, if he WANTS it by THE RULE or more, the key is HANDED ON", () -> {
            for (int rule = 2; rule <= 20; rule++) {
                String below = rule + "/d" + (char) ('a' + rule - 2) + "aaa/daaaa;0---";
                String just = rule + "/d" + (char) ('a' + rule - 1) + "aaa/daaaa;0---";
                YawnKeys x = college(below);
                x.days(1);
                E.due("a day ahead of rule " + rule, x.at(0, 0), 0);
                YawnKeys y = college(just);
                y.days(1);
                E.due("by rule " + rule, y.at(0, 0), 1);
                E.due("he wants it still", y.wants(0, 0), rule);
            }
            YawnKeys one = college("1/daaaa/daaaa;0---");
            one.days(1);
            E.due("by rule 1", one.at(0, 0), 1);
            YawnKeys three = college("8/dkaaa/daaaa;0---");
            three.days(1);
            E.due("by rule and 3", three.at(0, 0), 1);
            YawnKeys four = college("8/dlaaa/daaaa;0---");
            four.days(1);
            E.due("by rule and 4 not", four.at(0, 0), 0);
        });
        E.edge(10, "to who WANTS that DOOR least by then, of like ones the first (perhaps himself)", () -> {
            String[] texts = {"8/dhaaa/dcaaa/dbaaa/dbaaa;0---", "8/dhaaa/diaaa;0---", "8/diaaa/dhaaa;1---",
                "8/djaaa/dhaaa;1---", "8/dhaaa;0---", "8/duaaa/duaaa/duaaa/duaaa/dhaaa;4---",
                "8/daaaa/dbaaa/daaaa/daaaa/dhaaa;4---", "8/dhbaa/dcaaa;0---"};
            int[] due = {2, 0, 0, 1, 0, 4, 0, 1};
            for (int i = 0; i < texts.length; i++) {
                YawnKeys x = college(texts[i]);
                x.days(1);
                E.due("in " + texts[i], x.at(0, 0), due[i]);
            }
        });
    }

    private static void promise10AheadOfIt() {
        E.edge(10, "all who keep keys WANT those DOORS more, by how all is ahead of it", () -> {
            // He hands on key 0 in this day, but had both ahead of it.
            YawnKeys two = college("8/cgaaa/daaaa;00--");
            two.days(1);
            E.due("key 0 is handed on", two.at(0, 0), 1);
            E.due("door 1 by both keys", two.wants(0, 1), 2);
            two.days(1);
            E.due("door 1 by one key then", two.wants(0, 1), 3);
            // He is handed key 0 in this day, but had one ahead of it.
            YawnKeys more = college("8/dhaaa/caaaa;0--1");
            more.days(1);
            E.due("door 3 by one key", more.wants(1, 3), 1);
            more.days(1);
            E.due("door 3 by both keys then", more.wants(1, 3), 3);
            YawnKeys all = college("20/laaaa;0000");
            all.days(1);
            for (int door = 0; door < 4; door++) {
                E.due("door " + door + " by four keys", all.wants(0, door), 8);
            }
            // On day 0 COLD wants more, on day 1 nothing.
            YawnKeys cold = college("20/oaaaa;0---");
            int[] due = {1, 1, 2, 2, 3};
            for (int day = 0; day < 5; day++) {
                cold.days(1);
                E.due("COLD behind day " + day, cold.wants(0, 0), due[day]);
            }
        });
    }

    private static void promise11() {
        Edges.Made made = () -> college("8/dabcd/dstua;----");
        E.edge(11, "TALKED to of a DOOR by n (1 .. 20)", () -> {
            E.ends("n", made, (x, v) -> x.talk(0, 0, v), 1, 20, 1, 20);
            E.ends("person", made, (x, v) -> x.talk(v, 0, 1), 0, 1, 1, 19);
            E.ends("door", made, (x, v) -> x.talk(0, v, 1), 0, 3, 1, 4);
            E.ends("n with something of everything", Edges::rich, (x, v) -> x.talk(1, 1, v) < 0 ? -1 : 0, 1, 20, 0, 0);
            E.refused("nobody is there", YawnKeys::new, x -> x.talk(0, 0, 1), Edges.BAD);
            E.due("the last of five", Edges.five().talk(4, 0, 1), 1);
        });
        E.edge(11, "one WANTS a DOOR by n more (20 at most)", () -> {
            E.due("18 and 1", made.make().talk(1, 0, 1), 19);
            E.due("18 and 2", made.make().talk(1, 0, 2), 20);
            E.due("18 and 3", made.make().talk(1, 0, 3), 20);
            E.due("18 and 20", made.make().talk(1, 0, 20), 20);
            YawnKeys x = made.make();
            x.talk(1, 0, 20);
            E.due("he wants it so", x.wants(1, 0), 20);
            E.due("the other doors as before", x.of(1, 2), 20 + 19 + 20);
            E.due("the other one as before", x.of(0, 2), 6);
            E.due("no day", x.count(1), 0);
        });
        E.edge(11, "BAD; NOT: he WANTS it by 20.", () -> {
            E.due("19", made.make().talk(1, 1, 1), 20);
            E.refused("20", made, x -> x.talk(1, 2, 1), Edges.NOT);
            E.refused("20 by 20", made, x -> x.talk(1, 2, 20), Edges.NOT);
            E.refused("20 by 0", made, x -> x.talk(1, 2, 0), Edges.BAD);
            E.refused("20 by 21", made, x -> x.talk(1, 2, 21), Edges.BAD);
            E.refused("no such one by 0", made, x -> x.talk(2, 2, 0), Edges.BAD);
            E.refused("with all eight known", Edges10To15Test::eightKnown, x -> x.talk(0, 3, 1), Edges.NOT);
        });
    }

    /** Eight things to be UNDONE; door 3 is wanted by 20, its key kept by 0. */
    private static YawnKeys eightKnown() {
        YawnKeys x = college("20/daaau/dbbbb;---0");
        for (int i = 0; i < 9; i++) {
            x.talk(0, i % 3, 1);
        }
        return x;
    }

    private static void promise12() {
        Edges.Made made = () -> college("8/daaaa/daaaa;0--1");
        E.edge(12, "GIVEN to one, or on the NAIL (NONE): who kept it (NONE).", () -> {
            E.ends("door", made, (x, v) -> x.give(v, v == 3 ? 0 : 1), 0, 3, 0, 1);
            E.ends("person", made, (x, v) -> x.give(1, v), 0, 1, Edges.NONE, Edges.NONE);
            E.due("from one on the nail", made.make().give(0, Edges.NONE), 0);
            E.due("from the nail", made.make().give(1, 0), Edges.NONE);
            E.due("to the last of five", Edges.five().give(3, 4), Edges.NONE);
            int[] wrong = {-1, -2, -3, -5, -11, 2, 5};
            for (int person : wrong) {
                E.refused("to " + person, made, x -> x.give(1, person), Edges.BAD);
            }
            E.refused("nobody is there", YawnKeys::new, x -> x.give(0, 0), Edges.BAD);
        });
        E.edge(12, "GIVEN: a key to one, or on the NAIL.", () -> {
            YawnKeys x = made.make();
            for (int door = 0; door < 4; door++) {
                x.give(door, 1);
            }
            E.due("all four to one", x.of(1, 1), 15);
            E.due("none is left for the other", x.of(0, 1), 0);
            for (int door = 0; door < 4; door++) {
                x.give(door, Edges.NONE);
            }
            E.due("all on nails", x.count(4), 15);
            E.due("nobody wants more", x.count(5), 0);
            E.due("no day", x.count(1), 0);
        });
        E.edge(12, "BAD; NOT: it is so.", () -> {
            E.refused("to who keeps it", made, x -> x.give(0, 0), Edges.NOT);
            E.refused("to who keeps it", made, x -> x.give(3, 1), Edges.NOT);
            E.refused("on the nail where it is", made, x -> x.give(1, Edges.NONE), Edges.NOT);
            E.refused("on the nail where it is at first", YawnKeys::new, x -> x.give(3, Edges.NONE), Edges.NOT);
            E.refused("no such door on the nail", made, x -> x.give(4, Edges.NONE), Edges.BAD);
            E.refused("no such door on the nail", made, x -> x.give(-1, Edges.NONE), Edges.BAD);
            E.refused("with all eight known", Edges10To15Test::eightKnown, x -> x.give(3, 0), Edges.NOT);
        });
    }

    private static void promise13() {
        E.edge(13, "A DRIFT of n DAYS (1 .. 40", () -> {
            E.ends("n", Edges::rich, (x, v) -> x.drift(v) < 0 ? Edges.BAD : x.count(1), 1, 40, 4, 43);
            E.ends("n, nobody", YawnKeys::new, (x, v) -> x.drift(v), 1, 40, 0, 0);
        });
        E.edge(13, "each with what is TALKED one that may be UNDONE", () -> {
            YawnKeys x = college("20/daaaa;----");
            String before = Due.look(x);
            x.drift(1);
            E.due("he was talked to", x.count(5), 3);
            E.due("one", x.count(7), 1);
            E.due("none is left", x.undo(), 0);
            E.same("as ahead of it", Due.look(x), before);
            x.drift(9);
            E.due("eight of nine", x.count(7), 8);
            for (int left = 7; left >= 0; left--) {
                x.undo();
                E.due("the day", x.count(1), left + 1);
            }
        });
        E.edge(13, "how often DOORS were GONE IN in them. BAD; FULL: likewise.", () -> {
            YawnKeys x = college("1/luuuu;0000");
            E.due("all four", x.drift(1), 4);
            E.due("not those of before", x.drift(1), 4);
            E.due("in all", x.count(3), 8);
        });
    }

    private static void promise13LastDay() {
        E.edge(13, "BAD; FULL: likewise.", () -> {
            YawnKeys x = Edges.onDay(9959);
            E.due("forty to 9999", x.drift(40), 0);
            E.due("9999", x.count(1), 9999);
            E.due("one to 9999", Edges.onDay(9998).drift(1), 0);
            E.refused("forty to 10000", () -> Edges.onDay(9960), y -> y.drift(40), Edges.FULL);
            E.refused("two to 10000", () -> Edges.onDay(9998), y -> y.drift(2), Edges.FULL);
            E.refused("one to 10000", () -> Edges.onDay(9999), y -> y.drift(1), Edges.FULL);
            int[] wrong = {0, -1, 41, Integer.MIN_VALUE, Integer.MAX_VALUE};
            for (int n : wrong) {
                E.refused("n " + n, () -> Edges.onDay(9999), y -> y.drift(n), Edges.BAD);
            }
            YawnKeys one = Edges.onDay(9999);
            one.person(0, 0);
            E.due("one to 10000", one.drift(1), Edges.FULL);
            E.due("nobody was talked to", one.count(5), 0);
            E.due("the draw stays", one.seed(1), 1);
        });
    }

    private static final BigInteger TIMES = BigInteger.valueOf(1103515245);

    /** A DRIFT of one DAY by a seed, where no key is kept: who is TALKED to of what by how much. */
    private static void draw(int seed, int people) {
        YawnKeys x = new YawnKeys();
        for (int i = 0; i < people; i++) {
            x.person(0, 0);
        }
        x.seed(seed);
        x.drift(1);
        BigInteger next = BigInteger.valueOf(seed).multiply(TIMES).add(BigInteger.valueOf(12345))
                .mod(BigInteger.valueOf(1L << 31));
        long draw = next.longValueExact();
        String what = "seed " + seed + ", people " + people;
        E.due(what + ", by how much", x.wants((int) (draw / 65536 % people), (int) (draw / 256 % 4)), draw / 1024 % 4);
        E.due(what + ", none else", x.count(5), draw / 1024 % 4);
        E.due(what + ", the draw", x.seed(0), draw);
    }

    private static void promise13Draw() {
        E.edge(13, "it becomes the lowest 31 bits of itself times 1103515245 and 12345 more", () -> {
            for (int people = 1; people <= 5; people++) {
                for (int seed = 0; seed < 40; seed++) {
                    draw(seed, people);
                    draw(Integer.MAX_VALUE - seed, people);
                    draw((1 << 30) - 20 + seed, people);
                }
            }
        });
        E.edge(13, "What is divided is cut.", () -> {
            // 1103527590 by 65536 is 16838.5, of three 2; by 256 4310654.6, of four 2; by 1024 1077663.6, of four 3.
            YawnKeys x = college("20/daaaa/daaaa/daaaa;----");
            x.drift(1);
            E.due("one of three, of one of four doors, by 3", x.wants(2, 2), 3);
        });
        E.edge(13, "if there are PEOPLE, the one that it is", () -> {
            YawnKeys x = new YawnKeys();
            E.due("nobody", x.drift(1), 0);
            E.due("it goes on all the same", x.seed(0), 1103527590);
            E.due("the day, too", x.count(1), 1);
        });
        E.edge(13, "ahead of each DAY of a DRIFT", () -> {
            // By 1 one of three is talked to of door 2 by 3: with the day's own 1 he wants it by rule and 4.
            YawnKeys x = college("8/daaaa/daaaa/daaia;--2-");
            E.due("gone in", x.drift(1), 1);
            YawnKeys y = college("8/daaaa/daaaa/daaha;--2-");
            E.due("1 less is not", y.drift(1), 0);
            YawnKeys two = new YawnKeys();
            two.drift(2);
            E.due("twice in two days", two.seed(0), 377401575);
        });
        E.edge(13, "by it by 1024, left over by 4", () -> {
            YawnKeys x = college("20/duuuu/duuuu;----");
            x.drift(40);
            E.due("20 at most", x.count(5), 160);
            YawnKeys most = college("20/daaaa/daaaa/daasa;----");
            most.drift(1);
            E.due("18 and 3", most.wants(2, 2), 20);
            // By 377401575 one is talked to by 0: that is a day to be undone, too.
            YawnKeys none = college("20/daaaa/daaaa/daaaa;----");
            none.seed(1103527590);
            none.drift(1);
            E.due("by 0", none.count(5), 0);
            E.due("one to be undone", none.count(7), 1);
        });
    }

    private static void promise14() {
        E.edge(14, "NONE: none is known.", () -> {
            E.refused("a new object", YawnKeys::new, x -> x.undo(), Edges.NONE);
            Edges.Made spent = () -> {
                YawnKeys x = college("8/daaaa;----");
                x.talk(0, 0, 3);
                x.undo();
                return x;
            };
            E.refused("all undone", spent, x -> x.undo(), Edges.NONE);
        });
        E.edge(14, "(8 are known, older ones lost)", () -> {
            for (int done = 7; done <= 20; done++) {
                YawnKeys x = college("20/daaaa;----");
                for (int i = 0; i < done; i++) {
                    x.talk(0, 0, 1);
                }
                int known = Math.min(8, done);
                for (int left = known - 1; left >= 0; left--) {
                    E.due("of " + done + " left", x.undo(), left);
                    E.due("of " + done + " wanted", x.wants(0, 0), done - known + left);
                }
                E.due("of " + done + " none", x.undo(), Edges.NONE);
                E.due("of " + done + " the lost ones stay done", x.wants(0, 0), done - known);
            }
        });
        E.edge(14, "UNDONE: how many more may be.", () -> {
            YawnKeys x = college("20/daaaa;----");
            for (int i = 0; i < 12; i++) {
                x.talk(0, 0, 1);
            }
            for (int i = 0; i < 3; i++) {
                x.undo();
            }
            E.due("by 9", x.wants(0, 0), 9);
            for (int i = 0; i < 5; i++) {
                x.talk(0, 1, 1);
            }
            E.due("eight again", x.count(7), 8);
            for (int left = 7; left >= 0; left--) {
                E.due("left", x.undo(), left);
                E.due("all wanted", x.count(5), left >= 3 ? 9 + left - 3 : 6 + left);
            }
            E.due("none", x.undo(), Edges.NONE);
        });
        E.edge(14, "a COLLEGE, one more of PEOPLE leave nothing to be UNDONE", () -> {
            YawnKeys x = eightKnown();
            x.person(0, 0);
            E.due("one more", x.undo(), Edges.NONE);
            YawnKeys y = eightKnown();
            Due.college(y, "8/daaaa;----");
            E.due("a college", y.undo(), Edges.NONE);
            y.talk(0, 0, 1);
            E.due("what is done then may be", y.undo(), 0);
        });
    }

    private static void promise14WhatIsAsAhead() {
        E.edge(14, "the latest DAY, TALKED, GIVEN is as it had not been", () -> {
            Edges.Call[] done = {x -> x.days(1), x -> x.talk(0, 0, 20), x -> x.give(0, 0), x -> x.drift(1),
                x -> x.give(1, Edges.NONE), x -> x.days(1)};
            YawnKeys x = college("3/ccccc/lbbbb;-101");
            String[] ahead = new String[done.length];
            for (int i = 0; i < done.length; i++) {
                ahead[i] = Due.look(x);
                done[i].on(x);
            }
            for (int i = done.length - 1; i >= 0; i--) {
                E.due("left", x.undo(), i);
                E.same("as ahead of it", Due.look(x), ahead[i]);
            }
        });
        E.edge(14, "keys, WANTS, how often GONE IN, the DAY, THE DRAW are as ahead of it, whatever was told since", () -> {
            YawnKeys x = college("1/duuuu/daaaa;0000");
            x.seed(7);
            x.days(1);
            x.seed(8);
            x.rule(5);
            x.type('8');
            x.sheet(0, 1, 3);
            x.image();
            x.undo();
            E.due("keys", x.of(0, 1), 15);
            E.due("wants", x.count(5), 80);
            E.due("gone in", x.count(3), 0);
            E.due("the day", x.count(1), 0);
            E.due("the draw", x.seed(7), 7);
            E.due("the rule is as told since", x.count(2), 5);
            E.due("the tape is as told since", x.type('8'), 2);
            E.due("the sheet is as told since", x.drop(0), 3);
            E.due("the image is as told since", x.restore(), 1);
            E.due("the image", x.count(3), 4);
        });
        E.edge(14, "whatever was told since", () -> {
            Edges.Made told = () -> {
                YawnKeys x = college("8/daaaa/lbcde;0-1-");
                x.talk(0, 0, 1);
                return x;
            };
            YawnKeys x = told.make();
            x.in(0);
            x.keep(30, -1);
            x.strict(30);
            x.tempt(0, 30);
            x.talk(0, 0, 21);
            x.days(41);
            x.give(0, 0);
            x.person(9, 9);
            Due.college(x, "9/x");
            x.undo();
            YawnKeys y = told.make();
            y.undo();
            E.same("what only tells, and what is refused, is not known", Edges.whole(x), Edges.whole(y));
        });
    }

    private static void promise15() {
        E.edge(15, "THE DRAW becomes v: what it was. BAD: below 0.", () -> {
            YawnKeys x = new YawnKeys();
            E.due("0", x.seed(0), 1);
            E.due("the greatest", x.seed(Integer.MAX_VALUE), 0);
            E.due("1", x.seed(1), Integer.MAX_VALUE);
            E.refused("-1", Edges::rich, y -> y.seed(-1), Edges.BAD);
            E.refused("far below", Edges::rich, y -> y.seed(Integer.MIN_VALUE), Edges.BAD);
            E.due("nothing to be undone", x.count(7), 0);
        });
        E.edge(15, "THE DRAW is a number of 31 bits", () -> {
            YawnKeys x = new YawnKeys();
            x.seed(0);
            x.drift(1);
            E.due("from 0", x.seed(Integer.MAX_VALUE), 12345);
            x.drift(1);
            E.due("from the greatest", x.seed(0), 12345L - 1103515245L + 2147483648L);
        });
    }
}
