/** A test for each sentence of promises 16 to 27, and of the terms behind them, that names a boundary case. */
public final class Edges16To27Test {
    private static final Edges E = new Edges("Edges16To27Test", 16, 27);
    /**
     * By rule 16 each has the key till he WANTS door 0 by 16: behind 16, 32, 46, 47 DAYS; then a DAY each in turn, by
     * 17 to 19, till 0 GOES IN by 20 in the 60th.
     */
    private static final String IN_ON_60 = "16/daaaa/daaaa/dcaaa/dpaaa;0---";
    private static final String IN_ON_61 = "16/daaaa/daaaa/dbaaa/dpaaa;0---";
    /** By rule 16 each has the key for 16 DAYS, the fourth for 12: then, behind 60, the fifth. */
    private static final String FIFTH_ON_60 = "16/daaaa/daaaa/daaaa/deaaa/dfaaa;0---";

    public static void main(String[] args) {
        promise16();
        promise17();
        promise18();
        promise19();
        promise20();
        promise21();
        promiseFromNow();
        promise22();
        promise22LikeOnes();
        promise23();
        promise24();
        promise25();
        promise26();
        promise27();
        E.end();
    }

    private static YawnKeys college(String text) {
        return Due.collegeOf(text);
    }

    /** A COLD one who keeps key 0, by rule 16, on an odd DAY: he WANTS more in the second of the next DAYS, the fourth .. */
    private static YawnKeys coldOnOddDay(int want) {
        YawnKeys x = new YawnKeys();
        x.rule(16);
        x.person(2, want);
        x.days(1);
        x.give(0, 0);
        return x;
    }

    private static void promise16() {
        E.edge(16, "behind n DAYS (0 .. 60) who keeps a key", () -> {
            E.ends("n", () -> college(FIFTH_ON_60), (x, v) -> x.keeper(0, v), 0, 60, 0, 4);
            E.due("behind 59", college(FIFTH_ON_60).keeper(0, 59), 3);
            E.due("behind 16", college(FIFTH_ON_60).keeper(0, 16), 1);
            E.due("behind 15", college(FIFTH_ON_60).keeper(0, 15), 0);
        });
        E.edge(16, "Who keeps the key of a DOOR behind n DAYS (NONE). BAD.", () -> {
            E.ends("door", () -> college("8/daaaa/daaaa;0--1"), (x, v) -> x.keeper(v, 0), 0, 3, 0, 1);
            E.due("on the nail behind 0", college(FIFTH_ON_60).keeper(1, 0), Edges.NONE);
            E.due("on the nail behind 60", college(FIFTH_ON_60).keeper(3, 60), Edges.NONE);
            E.due("nobody is there", new YawnKeys().keeper(0, 60), Edges.NONE);
            E.refused("both", YawnKeys::new, x -> x.keeper(4, 61), Edges.BAD);
        });
        E.edge(16, "FORETOLD from now (nothing is changed)", () -> {
            E.tells("of something of everything", Edges::rich, x -> x.keeper(2, 60), Edges.NONE);
            YawnKeys x = Edges.onDay(9999);
            x.person(0, 7);
            x.person(0, 0);
            x.give(0, 0);
            E.due("beyond the last day", x.keeper(0, 1), 1);
            E.due("the day stays", x.count(1), 9999);
        });
    }

    private static void promise17() {
        E.edge(17, "by how much one WANTS a DOOR", () -> {
            E.ends("n", () -> college(IN_ON_60), (x, v) -> x.ahead(0, 0, v), 0, 60, 0, 0);
            E.due("behind 59", college(IN_ON_60).ahead(0, 0, 59), 19);
            E.due("behind 1", college(IN_ON_60).ahead(0, 0, 1), 1);
            E.ends("person", () -> college(IN_ON_60), (x, v) -> x.ahead(v, 0, 60), 0, 3, 0, 19);
            E.ends("door", () -> college("8/dabcd;----"), (x, v) -> x.ahead(0, v, 60), 0, 3, 0, 3);
            E.ends("person of five", Edges::five, (x, v) -> x.ahead(v, 3, 60), 0, 4, 0, 20);
        });
        E.edge(17, "By how much one WANTS a DOOR behind n DAYS. BAD.", () -> {
            E.refused("nobody is there", YawnKeys::new, x -> x.ahead(0, 0, 0), Edges.BAD);
            E.refused("the nail is no person", () -> college(IN_ON_60), x -> x.ahead(Edges.NONE, 0, 0), Edges.BAD);
            E.refused("all", YawnKeys::new, x -> x.ahead(5, 4, 61), Edges.BAD);
            E.tells("it only tells", Edges::rich, x -> x.ahead(0, 2, 60), 3);
            YawnKeys x = Edges.onDay(9999);
            x.person(2, 0);
            x.give(0, 0);
            E.due("beyond the last day, COLD on 9999", x.ahead(0, 0, 1), 0);
            E.due("on 10000", x.ahead(0, 0, 2), 1);
            E.due("to 10058", x.ahead(0, 0, 60), 6);
        });
    }

    private static void promise18() {
        E.edge(18, "How often DOORS were GONE IN, in all, behind n DAYS. BAD.", () -> {
            E.ends("n", () -> college(IN_ON_60), (x, v) -> x.then(v), 0, 60, 0, 1);
            E.due("behind 59", college(IN_ON_60).then(59), 0);
            E.due("in the 61st", college(IN_ON_61).then(60), 0);
            E.due("as often as can be", college("1/luuuu;0000").then(60), 240);
            E.due("nobody is there", new YawnKeys().then(60), 0);
            YawnKeys x = college("1/duuuu;0000");
            x.days(1);
            E.due("those of before, behind 0", x.then(0), 4);
            E.due("those of before, behind 4", x.then(4), 4);
            E.due("and more, behind 5", x.then(5), 8);
            E.tells("it only tells", Edges::rich, y -> y.then(0), 1);
        });
    }

    private static void promise19() {
        E.edge(19, "in which of the next 60 DAYS (1 on) it is GONE IN first; none", () -> {
            E.due("the first", college("8/dlaaa;0---").in(0), 1);
            E.due("the second", college("8/dkaaa;0---").in(0), 2);
            E.due("the 60th", college(IN_ON_60).in(0), 60);
            E.due("the 61st is none of them", college(IN_ON_61).in(0), Edges.NONE);
            YawnKeys x = college(IN_ON_61);
            x.days(1);
            E.due("a day later it is the 60th", x.in(0), 60);
            E.due("none, as the rule is 17", college("17/luaaa;0---").in(0), Edges.NONE);
            E.due("none, on the nail", college("1/duuuu;000-").in(3), Edges.NONE);
            E.due("of another door", college("1/duuuu;000-").in(2), 1);
            YawnKeys before = college("8/dlaaa;0---");
            before.days(1);
            E.due("what was gone in before is none of them", before.in(0), 12);
        });
        E.edge(19, "IN; NONE. BAD.", () -> {
            E.ends("door", () -> college("1/duuut;0000"), (x, v) -> x.in(v), 0, 3, 1, 1);
            E.due("nobody is there", new YawnKeys().in(3), Edges.NONE);
            E.tells("it only tells", Edges::rich, x -> x.in(2), Edges.NONE);
        });
    }

    private static void promise20() {
        E.edge(20, "behind how many of 1 to 60 DAYS another one keeps its key, or it is GONE IN, first; none", () -> {
            E.due("handed on in the first", college("8/dhaaa/daaaa;0---").holds(0), 1);
            E.due("handed on in the second", college("8/dgaaa/daaaa;0---").holds(0), 2);
            E.due("gone in in the first", college("8/dlaaa/daaaa;0---").holds(0), 1);
            E.due("gone in, which he keeps it behind", college("8/dlaaa/duaaa;0---").holds(0), 1);
            E.due("to himself, till he goes in", college("8/dhaaa/duaaa;0---").holds(0), 5);
            E.due("none, as he is handed it ever again", college("20/duaaa/duaaa;0---").holds(0), Edges.NONE);
            E.due("none, as he never cares", college("10/baaaa/daaaa;0---").holds(0), Edges.NONE);
            E.due("none, on the nail", college("1/duuuu;-000").holds(0), Edges.NONE);
            // Nobody holds longer than COLD from 0 to 20, from an odd day on.
            E.due("as long as can be", coldOnOddDay(0).holds(0), 40);
            E.due("a day less", coldOnOddDay(1).holds(0), 38);
            YawnKeys first = college("8/dhaaa/daaaa;01--");
            E.due("handed away and back is the first", first.holds(0), 1);
            E.due("another door", first.holds(1), 8);
        });
        E.edge(20, "HOLDS; NONE. BAD.", () -> {
            E.ends("door", () -> college("1/duuut;0000"), (x, v) -> x.holds(v), 0, 3, 1, 1);
            E.due("nobody is there", new YawnKeys().holds(0), Edges.NONE);
            E.tells("it only tells", Edges::rich, x -> x.holds(2), Edges.NONE);
        });
    }

    private static void promise21() {
        E.edge(21, "who keeps its key behind any of 0 to n of them (a set)", () -> {
            E.ends("n", () -> college(FIFTH_ON_60), (x, v) -> x.had(0, v), 0, 60, 1, 31);
            E.due("behind 59", college(FIFTH_ON_60).had(0, 59), 15);
            E.due("behind 16", college(FIFTH_ON_60).had(0, 16), 3);
            E.due("behind 15", college(FIFTH_ON_60).had(0, 15), 1);
            E.due("who has it now, too", college("8/daaaa/dhaaa;1---").had(0, 1), 3);
            E.due("the last alone", college("8/daaaa/daaaa/daaaa/daaaa/daaaa;4---").had(0, 7), 16);
        });
        E.edge(21, "HAD (a set). BAD.", () -> {
            E.ends("door", () -> college("8/daaaa/daaaa;0--1"), (x, v) -> x.had(v, 0), 0, 3, 1, 2);
            E.due("the nail is nobody", college(FIFTH_ON_60).had(1, 60), 0);
            E.due("nobody is there", new YawnKeys().had(0, 60), 0);
            E.refused("both", Edges::rich, x -> x.had(4, 61), Edges.BAD);
            E.tells("it only tells", Edges::rich, x -> x.had(2, 60), 0);
        });
    }

    /** What was foretold before, or lived, is not in what is foretold now. */
    private static void promiseFromNow() {
        E.edge(16, "FORETOLD from now", () -> asItComes((x, door, n) -> x.keeper(door, n), (y, door, had) -> y.at(door, 0)));
        E.edge(17, "FORETOLD from now", () -> asItComes((x, door, n) -> x.ahead(2, door, n), (y, door, had) -> y.wants(2, door)));
        E.edge(18, "FORETOLD from now", () -> asItComes((x, door, n) -> x.then(n), (y, door, had) -> y.count(3)));
        E.edge(21, "FORETOLD from now", () -> asItComes((x, door, n) -> x.had(door, n), (y, door, had) -> had));
        E.edge(19, "FORETOLD from now", () -> {
            YawnKeys x = college("8/dabcd;0000");
            for (int door = 3; door >= 0; door--) {
                E.due("door " + door, x.in(door), 12 - door);
                E.due("door " + door + " again", x.in(door), 12 - door);
            }
        });
        E.edge(20, "FORETOLD from now", () -> {
            YawnKeys x = college("8/dabcd;0000");
            for (int door = 3; door >= 0; door--) {
                E.due("door " + door, x.holds(door), 12 - door);
                E.due("door " + door + " again", x.holds(door), 12 - door);
            }
        });
        E.edge(23, "TALKED to of it now", () -> {
            YawnKeys x = college("8/dabcd;0000");
            for (int door = 3; door >= 0; door--) {
                E.due("door " + door, x.tempt(door, 1), 11 - door);
                E.due("door " + door + " again", x.tempt(door, 1), 11 - door);
            }
        });
    }

    private interface Foretold {
        int of(YawnKeys x, int door, int n);
    }

    private interface Lived {
        int of(YawnKeys y, int door, int had);
    }

    /** What is foretold of each of 0 to 60 DAYS, the latest first, is what comes in them. */
    private static void asItComes(Foretold foretold, Lived lived) {
        for (int door = 0; door < 4; door++) {
            YawnKeys x = Edges.rich();
            int[] got = new int[61];
            for (int n = 60; n >= 0; n--) {
                got[n] = foretold.of(x, door, n);
            }
            YawnKeys y = Edges.rich();
            int had = 0;
            for (int n = 0; n <= 60; n++) {
                had |= y.at(door, 0) == Edges.NONE ? 0 : 1 << y.at(door, 0);
                E.due("door " + door + " behind " + n, got[n], lived.of(y, door, had));
                y.days(1);
            }
        }
    }

    private static void promise22() {
        // All keys are the only one's: by 5 and 15 he goes in on the 30th day, an even one.
        Edges.Made cold = () -> {
            YawnKeys x = new YawnKeys();
            x.rule(16);
            x.person(2, 5);
            x.days(1);
            return x;
        };
        E.edge(22, "KEEP for n DAYS (1 .. 30)", () -> {
            E.ends("n", cold, (x, v) -> x.keep(v, -1), 1, 30, 0, 4);
            E.due("29", cold.make().keep(29, -1), 0);
            E.due("1", college("1/duuuu;----").keep(1, -1), 4);
            E.due("as often as can be", college("1/luuuu;0000").keep(30, -1), 120);
        });
        E.edge(22, "none: there is nobody", () -> {
            for (int door = -2; door <= 3; door++) {
                E.due("door " + door, new YawnKeys().keep(30, door), Edges.NONE);
            }
            E.due("one is there", college("8/daaaa;----").keep(30, 3), 0);
        });
        E.edge(22, "BAD: no such DOOR, below -2, too.", () -> {
            E.ends("door", cold, (x, v) -> x.keep(30, v), -2, 3, 4, 0);
            E.refused("door -4", cold, x -> x.keep(30, Edges.NONE), Edges.BAD);
            E.refused("both", cold, x -> x.keep(31, 4), Edges.BAD);
            E.refused("n 0, nobody", YawnKeys::new, x -> x.keep(0, 0), Edges.BAD);
            E.refused("n 31, nobody", YawnKeys::new, x -> x.keep(31, 0), Edges.BAD);
            E.refused("door 4, nobody", YawnKeys::new, x -> x.keep(1, 4), Edges.BAD);
            E.refused("door -3, nobody", YawnKeys::new, x -> x.keep(1, -3), Edges.BAD);
            E.tells("it only tells", Edges::rich, x -> x.keep(1, -1), 0);
        });
    }

    private static void keeps(String what, YawnKeys x, int n, int... due) {
        for (int i = 0; i < due.length; i++) {
            E.due(what + ", " + (i < 2 ? -1 - i : i - 2), x.keep(n, i < 2 ? -1 - i : i - 2), due[i]);
        }
    }

    private static void promise22LikeOnes() {
        E.edge(22, "so that DOORS are GONE IN least often in them", () -> {
            // Who has key 0 goes in but for the last one: all else is given as it is.
            keeps("the last", college("1/duaaa/duaaa/dabbb;01-0"), 1, 0, 2, 2, 1, 0, 0);
            YawnKeys x = college("1/duaaa/daaaa;0---");
            x.days(1);
            E.due("one before", x.count(3), 1);
            E.due("not those of before", x.keep(1, -1), 0);
            YawnKeys often = college("1/luuuu;0000");
            often.days(30);
            E.due("as often before as then", often.count(3), 120);
            E.due("those of then alone", often.keep(30, -1), 120);
            E.due("asked again", often.keep(30, -1), 120);
            // Two keys make a LOVER want 4 a day, three 6: by rule 1 that is in.
            keeps("two each", college("1/laaaa/laaaa;0000"), 1, 0, 2, 0, 0, 1, 1);
        });
        E.edge(22, "of like ones so that fewest keys must be GIVEN otherwise than they are now", () -> {
            keeps("none", college("20/daaaa/daaaa/daaaa;2102"), 30, 0, 0, 2, 1, 0, 2);
            keeps("two from nails", college("20/daaaa/daaaa/daaaa;2--1"), 30, 0, 2, 2, 0, 0, 1);
            keeps("all four from nails", college("20/daaaa/daaaa;----"), 30, 0, 4, 0, 0, 0, 0);
            keeps("however often", college("1/luuuu/luuuu;1010"), 1, 4, 0, 1, 0, 1, 0);
        });
        E.edge(22, "of like ones the first (who has key 0, then 1, rising)", () -> {
            keeps("two each from nails", college("1/laaaa/laaaa;----"), 1, 0, 4, 0, 0, 1, 1);
            keeps("two each, key 0 as it is", college("1/laaaa/laaaa;1---"), 1, 0, 3, 1, 0, 0, 1);
            keeps("once, whoever has key 0", college("1/duaaa/duaaa/duaaa;----"), 1, 1, 4, 0, 0, 0, 0);
            keeps("once, two as they are", college("1/duaaa/duaaa/duaaa;2-2-"), 1, 1, 2, 2, 0, 2, 0);
            keeps("two each, key 3 as it is", college("1/laaaa/laaaa;---0"), 1, 0, 3, 0, 1, 1, 0);
        });
    }

    private static void promise23() {
        E.edge(23, "TALK for a DOOR, n DAYS (1 .. 30)", () -> {
            E.ends("n", () -> coldOnOddDay(5), (x, v) -> x.tempt(0, v), 1, 30, 15, 0);
            E.due("29", coldOnOddDay(5).tempt(0, 29), 1);
            E.ends("door", () -> college("1/dadce;0000"), (x, v) -> x.tempt(v, 1), 0, 3, 4, 0);
        });
        E.edge(23, "the least n more (0 .. 20)", () -> {
            E.due("0", college("8/dlaaa;0---").tempt(0, 1), 0);
            E.due("0 for one who wants it by 20", college("8/duaaa;0---").tempt(0, 1), 0);
            E.due("1", college("8/dkaaa;0---").tempt(0, 1), 1);
            E.due("19", coldOnOddDay(1).tempt(0, 1), 19);
            E.due("20", coldOnOddDay(0).tempt(0, 1), 20);
            E.due("none by 20", college("17/daaaa;0---").tempt(0, 30), Edges.NONE);
            E.due("20 at most", college("17/duaaa;0---").tempt(0, 30), Edges.NONE);
        });
        E.edge(23, "none (its key on the NAIL, too)", () -> {
            E.due("on the nail", college("1/duuuu;000-").tempt(3, 30), Edges.NONE);
            E.due("nobody is there", new YawnKeys().tempt(0, 1), Edges.NONE);
        });
        E.edge(23, "makes it GONE IN in them", () -> {
            E.due("not another door", college("8/daaau;0--0").tempt(0, 1), 11);
            YawnKeys x = college("8/dlaaa;0---");
            x.days(1);
            E.due("not those of before", x.tempt(0, 1), 11);
            // 1 hands it on to 0 in the first day; from 8 on they have it in turn, till 0 goes in in the ninth.
            YawnKeys turns = college("8/dhaaa/dhaaa;1---");
            E.due("by whoever keeps it then", turns.tempt(0, 9), 0);
            E.due("a day less", turns.tempt(0, 8), 1);
        });
        E.edge(23, "TALK; NONE. BAD.", () -> {
            E.refused("n 0, on the nail", YawnKeys::new, x -> x.tempt(0, 0), Edges.BAD);
            E.refused("n 31, on the nail", YawnKeys::new, x -> x.tempt(0, 31), Edges.BAD);
            E.refused("both", Edges::rich, x -> x.tempt(4, 31), Edges.BAD);
            E.tells("it only tells", Edges::rich, x -> x.tempt(2, 30), Edges.NONE);
        });
    }

    private static void promise24() {
        E.edge(24, "STRICT for n DAYS (1 .. 30)", () -> {
            E.ends("n", () -> college("1/luuuu;0000"), (x, v) -> x.strict(v), 1, 30, 20, 20);
            E.ends("n, nobody", YawnKeys::new, (x, v) -> x.strict(v), 1, 30, 20, 20);
        });
        E.edge(24, "the greatest RULE (1 .. 20) from now on by which nothing is GONE IN in them; none", () -> {
            YawnKeys x = college("1/luuuu;0000");
            x.days(9);
            E.due("those of before are none of them", x.strict(30), 20);
            E.due("the rule stays", x.count(2), 1);
            E.tells("it only tells", Edges::rich, y -> y.strict(30), 20);
        });
    }

    private static void fraction(String what, YawnKeys x, int c, int above, int below) {
        E.due(what + ", above", x.yawn(0, c, 0), above);
        E.due(what + ", below", x.yawn(0, c, 1), below);
    }

    private static void promise25() {
        String five = "8/diaaa/duaaa/diaaa/diaaa/diaaa;----";
        E.edge(25, "YAWN by c of 10 (0 .. 10)", () -> {
            E.ends("c", () -> college(five), (x, v) -> x.yawn(0, v, 0), 0, 10, 1, 0);
            fraction("by 0", college(five), 0, 1, 1);
            fraction("by 1", college(five), 1, 59049, 100000);
            fraction("by 9", college(five), 9, 1, 100000);
            fraction("by 10", college(five), 10, 0, 1);
        });
        E.edge(25, "whether he WANTS a told DOOR by THE RULE or more", () -> {
            fraction("one by the rule, one below", college("8/diaaa/dhaaa;----"), 1, 9, 10);
            fraction("none", college("8/dhaaa/dhuuu;----"), 10, 1, 1);
            fraction("by rule 1", college("1/dbaaa/daaaa;----"), 1, 9, 10);
            fraction("by rule 20", college("20/duaaa/dtaaa;----"), 1, 9, 10);
            fraction("nobody is there", new YawnKeys(), 10, 1, 1);
            YawnKeys x = college("8/duuuu/duuuu;----");
            Due.college(x, "8/diaaa;----");
            fraction("who is there no more", x, 1, 9, 10);
        });
        E.edge(25, "a fraction in lowest terms", () -> {
            int[] above = {1, 59049, 1024, 16807, 243, 1, 32, 243, 1, 1, 0};
            int[] below = {1, 100000, 3125, 100000, 3125, 32, 3125, 100000, 3125, 100000, 1};
            for (int c = 0; c <= 10; c++) {
                fraction("by " + c, college(five), c, above[c], below[c]);
            }
        });
        E.edge(25, "YAWN: above (what 0), below (1). BAD.", () -> {
            E.ends("what", () -> college(five), (x, v) -> x.yawn(0, 5, v), 0, 1, 1, 32);
            E.ends("door", () -> college("8/diaah;----"), (x, v) -> x.yawn(v, 1, 0), 0, 3, 9, 1);
            E.refused("all", Edges::rich, x -> x.yawn(4, 11, 2), Edges.BAD);
            E.tells("it only tells", Edges::rich, x -> x.yawn(0, 0, 1), 1);
        });
    }

    private static void promise26() {
        E.edge(26, "All but SHEETS, THE TAPE is kept as an IMAGE: 1.", () -> {
            E.due("of nobody", new YawnKeys().image(), 1);
            E.due("twice", twiceImaged().image(), 1);
            YawnKeys x = Edges.rich();
            String before = Due.look(x);
            x.image();
            E.same("nothing else is changed", Due.look(x), before);
            E.due("nor the tape", x.type('-'), 11);
            E.due("nor the sheets", x.drop(0), 5);
        });
        E.edge(26, "is kept as an IMAGE", () -> {
            YawnKeys x = twiceImaged();
            x.restore();
            E.due("the latest one alone", x.count(2), 4);
            x.restore();
            E.due("it is still that", x.count(2), 4);
        });
    }

    private static YawnKeys twiceImaged() {
        YawnKeys x = Due.collegeOf("3/daaaa;----");
        x.image();
        x.rule(4);
        x.image();
        x.rule(5);
        return x;
    }

    private static void promise27() {
        E.edge(27, "All is as it was then: 1.", () -> {
            YawnKeys x = Edges.richWithoutTape();
            x.image();
            String sheets = Edges.row(x, 0) + Edges.row(x, 2);
            String then = Due.look(restored(x));
            x.drift(40);
            x.rule(1);
            x.person(4, 4);
            x.restore();
            E.same("behind days, a rule, one more", Due.look(x), then);
            Due.college(x, "1/buuuu/buuuu/buuuu/buuuu/buuuu;0123");
            x.restore();
            E.same("behind a college", Due.look(x), then);
            x.undo();
            x.undo();
            x.restore();
            E.same("behind what was undone", Due.look(x), then);
            E.same("the sheets are not in it", Edges.row(x, 0) + Edges.row(x, 2), sheets);
        });
        E.edge(27, "NONE: there is none.", () -> {
            E.refused("a new object", YawnKeys::new, x -> x.restore(), Edges.NONE);
            E.refused("a college", () -> college("8/dabcd;0---"), x -> x.restore(), Edges.NONE);
            YawnKeys x = new YawnKeys();
            x.image();
            x.person(3, 3);
            x.give(0, 0);
            x.days(4);
            E.due("one of nobody", x.restore(), 1);
            x.restore();
            E.same("nobody again", Due.look(x), Due.look(new YawnKeys()));
        });
        E.edge(27, "All but SHEETS, THE TAPE", () -> {
            YawnKeys x = college("8/daaaa;----");
            x.image();
            Edges.typed(x, "20/dabcd;---");
            x.sheet(1, 2, 7);
            x.restore();
            E.due("the tape is as it is now", x.type('-'), 13);
            E.due("so is the sheet", x.drop(1), 7);
            E.due("the tape is a college", x.college(), 1);
        });
        E.edge(27, "All is as it was then", () -> {
            YawnKeys x = college("20/daaaa;----");
            for (int i = 0; i < 9; i++) {
                x.talk(0, 0, 1);
            }
            x.image();
            x.days(20);
            x.restore();
            for (int left = 7; left >= 0; left--) {
                E.due("what was to be undone then", x.undo(), left);
                E.due("as ahead of it", x.wants(0, 0), left + 1);
            }
            E.due("none", x.undo(), Edges.NONE);
            x.restore();
            E.due("all eight again", x.count(7), 8);
            Due.college(x, "8/daaaa;----");
            x.image();
            x.days(3);
            x.restore();
            E.due("nothing to be undone then", x.undo(), Edges.NONE);
        });
    }

    private static YawnKeys restored(YawnKeys x) {
        x.restore();
        return x;
    }
}
