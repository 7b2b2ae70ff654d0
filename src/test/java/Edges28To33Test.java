/** A test for each sentence of promises 28 to 33, and of the terms behind them, that names a boundary case. */
public final class Edges28To33Test {
    private static final Edges E = new Edges("Edges28To33Test", 28, 33);
    private static final int ALL_RULES = (1 << 21) - 2;
    private static final int FAR_BELOW = Integer.MIN_VALUE;
    private static final int FAR_ABOVE = Integer.MAX_VALUE;

    public static void main(String[] args) {
        promise28();
        promise28Sets();
        promise28Row();
        promise28Order();
        promise29();
        promise29FromNow();
        promise29Row();
        promise29Order();
        promise30();
        promise31();
        promise32();
        promise32LowestBits();
        promise32Order();
        promise33();
        promise33Index();
        promise33Order();
        E.end();
    }

    /** One of PEOPLE, no key kept, each SHEET of the LANE of its own number: what is read back is what stands there. */
    private static YawnKeys lanes() {
        YawnKeys x = Due.collegeOf("20/dfaaa;----");
        for (int sheet = 0; sheet < 4; sheet++) {
            Edges.sheetOf(x, sheet, sheet, 5, 5, 5, 5, 5, 5, 5, 5);
        }
        return x;
    }

    /** SHEET 0 of shorts, 1 nothing, 2 and 3 of ints, of eight, five and no items. */
    private static YawnKeys missing() {
        YawnKeys x = Due.collegeOf("20/dfaaa;----");
        Edges.sheetOf(x, 0, 1, 5, 5, 5, 5, 5, 5, 5, 5);
        Edges.sheetOf(x, 2, 2, 1, 2, 3, 4, 5);
        x.sheet(3, 2, 0);
        return x;
    }

    private static void promise28() {
        E.edge(28, "behind each of the next n DAYS (1 .. 8)", () -> {
            E.ends("n", Edges28To33Test::lanes, (x, v) -> x.told(0, 0, 0, 0, 0, v, 0), 1, 8, 31, 31);
            // From an odd day on COLD comes to 9 in the sixth day, and is told from BLIND by the eighth alone.
            YawnKeys x = new YawnKeys();
            x.rule(20);
            x.person(0, 6);
            x.days(1);
            x.give(0, 0);
            Edges.sheetOf(x, 0, 2, 6, 7, 7, 8, 8, 9, 9, 10);
            E.due("seven days", x.told(0, 0, 0, 2, 0, 7, 0), 20);
            E.due("eight days", x.told(0, 0, 0, 2, 0, 8, 0), 4);
            x.item(0, 2, 7, 9);
            E.due("eight days, BLIND", x.told(0, 0, 0, 2, 0, 8, 0), 16);
            E.due("a day, from item 1 on", x.told(0, 0, 0, 2, 1, 1, 0), 3);
        });
        E.edge(28, "TOLD of one, of a DOOR, by n items of a SHEET taken as a row of a LANE, from item i on", () -> {
            Edges.Made made = Edges28To33Test::lanes;
            E.ends("person", made, (x, v) -> x.told(v, 0, 0, 0, 0, 1, 0), 0, 0, 31, 31);
            E.ends("door", made, (x, v) -> x.told(0, v, 0, 0, 0, 1, 0), 0, 3, 31, 0);
            E.ends("sheet", made, (x, v) -> x.told(0, 0, v, v & 3, 0, 1, 0), 0, 3, 31, 31);
            E.ends("lane", made, (x, v) -> x.told(0, 0, v & 3, v, 0, 1, 0), 0, 3, 31, 31);
            E.ends("what", made, (x, v) -> x.told(0, 0, 0, 0, 0, 1, v), 0, 2, 31, ALL_RULES);
            E.refused("nobody is there", YawnKeys::new, x -> x.told(0, 0, 0, 0, 0, 1, 0), Edges.BAD);
            E.tells("it only tells", Edges::rich, x -> x.told(0, 2, 2, 2, 4, 1, 1), 1 << 3);
        });
    }

    private static void promise28Sets() {
        E.edge(28, "by how much (0 .. 20, a set) he might WANT it now", () -> {
            YawnKeys x = lanes();
            long[] items = {0, 20, 21, -1, Long.MAX_VALUE, Long.MIN_VALUE};
            int[] due = {1, 1 << 20, 0, 0, 0, 0};
            for (int i = 0; i < items.length; i++) {
                x.item(3, 3, 0, items[i]);
                E.due("item " + items[i], x.told(0, 0, 3, 3, 0, 1, 1), due[i]);
            }
            // By rule 16 he goes in by 20, of 19 and 20 that he might want it by now.
            YawnKeys y = Due.collegeOf("16/dfaaa;0---");
            Edges.sheetOf(y, 0, 2, 0, 1);
            E.due("19 and 20", y.told(0, 0, 0, 2, 0, 2, 1), 3 << 19);
            Edges.sheetOf(y, 0, 2, 1);
            E.due("0", y.told(0, 0, 0, 2, 0, 1, 1), 1);
            E.due("he wants it as before", y.wants(0, 0), 5);
        });
        E.edge(28, "RULES (1 .. 20, a set of bits 1 .. 20)", () -> {
            YawnKeys x = lanes();
            E.due("all", x.told(0, 0, 0, 0, 0, 8, 2), ALL_RULES);
            E.due("none", x.told(0, 1, 0, 0, 0, 1, 2), 0);
            YawnKeys in = Due.collegeOf("8/deaaa;0---");
            Edges.sheetOf(in, 0, 2, 0);
            E.due("1 alone: he goes in by 5", in.told(0, 0, 0, 2, 0, 1, 2), 2);
            YawnKeys on = Due.collegeOf("8/dtaaa/daaaa;0---");
            Edges.sheetOf(on, 0, 2, 20, 20);
            E.due("17 and above", on.told(0, 0, 0, 2, 0, 2, 2), 15 << 17);
            E.due("the rule stays", on.count(2), 8);
        });
        E.edge(28, "KINDS (a set) of him by which it would be so", () -> {
            YawnKeys x = Due.collegeOf("20/dfaaa;0--0");
            int[] items = {5, 6, 7, 8, 9};
            int[] due = {0, 1 | 4 | 16, 2, 0, 8};
            for (int i = 0; i < items.length; i++) {
                Edges.sheetOf(x, 0, 2, items[i]);
                E.due("item " + items[i], x.told(0, 0, 0, 2, 0, 1, 0), due[i]);
            }
            E.due("his kind stays", x.of(0, 0), 0);
        });
        E.edge(28, "KINDS (what 0), WANTS (1), RULES (2)", () -> {
            YawnKeys x = lanes();
            E.due("kinds", x.told(0, 0, 0, 0, 0, 1, 0), 31);
            E.due("wants", x.told(0, 0, 0, 0, 0, 1, 1), 1 << 5);
            E.due("rules", x.told(0, 0, 0, 0, 0, 1, 2), ALL_RULES);
        });
    }

    private static void promise28Row() {
        E.edge(28, "by n items of a SHEET taken as a row of a LANE, from item i on", () -> {
            for (int lane = 0; lane < 4; lane++) {
                int own = lane;
                E.due("all eight", lanes().told(0, 0, own, own, 0, 8, 0), 31);
                E.due("the last", lanes().told(0, 0, own, own, 7, 1, 0), 31);
                int[][] beyond = {{8, 1}, {1, 8}, {7, 2}, {-1, 1}, {-1, 8}, {FAR_ABOVE, 1}, {FAR_ABOVE - 7, 8}, {FAR_BELOW, 8}};
                for (int[] row : beyond) {
                    E.refused("lane " + own + ", " + row[1] + " from " + row[0], Edges28To33Test::lanes,
                            x -> x.told(0, 0, own, own, row[0], row[1], 0), Edges.INDEX);
                }
            }
            E.refused("of none", Edges28To33Test::missing, x -> x.told(0, 0, 3, 2, 0, 1, 0), Edges.INDEX);
        });
        E.edge(28, "CAST -12 (of SHEETS another LANE)", () -> {
            for (int i = 0; i < 16; i++) {
                int sheet = i / 4;
                int lane = i % 4;
                E.due("sheet " + sheet + " as lane " + lane, lanes().told(0, 0, sheet, lane, 0, 1, 0),
                        sheet == lane ? 31 : Edges.CAST);
            }
        });
    }

    private static void promise28Order() {
        E.edge(28, "WANTS (1), RULES (2). BAD; NULL; CAST; INDEX.", () -> {
            Edges.Made made = Edges28To33Test::missing;
            int[][] bad = {{1, 0, 1, 1, -1, 1, 0}, {0, 4, 1, 1, -1, 1, 0}, {0, 0, 1, 4, -1, 1, 0}, {0, 0, 1, 1, -1, 9, 0},
                {0, 0, 1, 1, -1, 0, 0}, {0, 0, 1, 1, -1, 1, 3}, {0, 0, 4, 1, -1, 1, 0}, {0, 0, 0, 0, 8, 9, 0}};
            for (int[] a : bad) {
                E.refused("BAD first", made, x -> x.told(a[0], a[1], a[2], a[3], a[4], a[5], a[6]), Edges.BAD);
            }
            E.refused("NULL ahead of INDEX", made, x -> x.told(0, 0, 1, 1, -1, 1, 0), Edges.NULL);
            E.refused("NULL of what was dropped, as another LANE", () -> dropped(), x -> x.told(0, 0, 0, 3, 9, 1, 0), Edges.NULL);
            E.refused("CAST ahead of INDEX", made, x -> x.told(0, 0, 0, 2, 8, 1, 0), Edges.CAST);
            E.refused("CAST of no items", made, x -> x.told(0, 0, 3, 1, 0, 1, 0), Edges.CAST);
            E.refused("INDEX", made, x -> x.told(0, 0, 0, 1, 8, 1, 0), Edges.INDEX);
        });
    }

    private static YawnKeys dropped() {
        YawnKeys x = missing();
        x.drop(0);
        return x;
    }

    private static void promise29() {
        Edges.Made made = () -> filmed(24);
        E.edge(29, "behind 1, 2, .. n DAYS (1 .. 24), an item each", () -> {
            E.ends("n", made, (x, v) -> x.film(0, 0, v, 0, 0, 0), 1, 24, 1, 24);
            YawnKeys x = filmed(24);
            x.film(0, 0, 24, 0, 0, 0);
            // DULL by rule 20, from 0 on.
            E.same("all", Edges.row(x, 0), "lane 0 1 2 3 4 5 6 7 8 9 10 11 12 13 14 15 16 17 18 19 20 20 20 20 20 end -13");
            x = filmed(3);
            x.film(0, 0, 1, 0, 0, 1);
            E.same("one item alone", Edges.row(x, 0), "lane 0 7 1 7 end -13");
        });
        E.edge(29, "comes to a SHEET likewise: n.", () -> {
            E.ends("person", made, (x, v) -> x.film(v, 0, 1, 0, 0, 0), 0, 0, 1, 1);
            E.ends("door", made, (x, v) -> x.film(0, v, 1, 0, 0, 0), 0, 3, 1, 1);
            E.ends("sheet", Edges28To33Test::lanes, (x, v) -> x.film(0, 0, 8, v, v & 3, 0), 0, 3, 8, 8);
            E.ends("lane", Edges28To33Test::lanes, (x, v) -> x.film(0, 0, 8, v & 3, v, 0), 0, 3, 8, 8);
            E.refused("nobody is there", YawnKeys::new, x -> x.film(0, 0, 1, 0, 0, 0), Edges.BAD);
            YawnKeys x = filmed(24);
            String before = Due.look(x);
            x.film(0, 0, 24, 0, 0, 0);
            E.same("the college is as before", Due.look(x), before);
        });
    }

    /** Of something of everything, whatever was foretold before, the film is what comes. */
    private static void promise29FromNow() {
        E.edge(29, "By how much one WANTS a DOOR behind 1, 2, .. n DAYS", () -> {
            for (int i = 0; i < 12; i++) {
                int person = i / 4;
                int door = i % 4;
                YawnKeys x = Edges.rich();
                YawnKeys y = Edges.rich();
                x.then(9);
                x.film(person, door, 8, 2, 2, 0);
                StringBuilder comes = new StringBuilder("lane 2");
                for (int n = 1; n <= 8; n++) {
                    y.days(1);
                    comes.append(' ').append(y.wants(person, door));
                }
                E.same("of " + person + ", door " + door, Edges.row(x, 2), comes.append(" end -13").toString());
            }
        });
    }

    /** One who keeps key 0 and WANTS all by 0; SHEET 0 of bytes, all 7. */
    private static YawnKeys filmed(int items) {
        YawnKeys x = Due.collegeOf("20/daaaa;0---");
        x.sheet(0, 0, items);
        for (int i = 0; i < items; i++) {
            x.item(0, 0, i, 7);
        }
        return x;
    }

    private static void promise29Row() {
        E.edge(29, "an item each, comes to a SHEET", () -> {
            E.due("just all", filmed(5).film(0, 0, 5, 0, 0, 0), 5);
            E.due("just to the end", filmed(5).film(0, 0, 2, 0, 0, 3), 2);
            YawnKeys x = filmed(5);
            x.film(0, 0, 2, 0, 0, 3);
            E.same("to the end", Edges.row(x, 0), "lane 0 7 7 7 1 2 end -13");
            int[][] beyond = {{5, 1}, {1, 5}, {4, 2}, {0, 6}, {0, 24}, {-1, 1}, {-1, 24}, {FAR_ABOVE, 1}, {FAR_ABOVE - 23, 24},
                {FAR_BELOW, 24}};
            for (int[] row : beyond) {
                E.refused(row[1] + " from " + row[0], () -> filmed(5),
                        y -> y.film(0, 0, row[1], 0, 0, row[0]), Edges.INDEX);
            }
            E.refused("of none", () -> filmed(0), y -> y.film(0, 0, 1, 0, 0, 0), Edges.INDEX);
        });
    }

    private static void promise29Order() {
        E.edge(29, "comes to a SHEET likewise: n. BAD; NULL; CAST; INDEX.", () -> {
            Edges.Made made = Edges28To33Test::missing;
            int[][] bad = {{1, 0, 1, 1, 1, -1}, {0, 4, 1, 1, 1, -1}, {0, 0, 0, 1, 1, -1}, {0, 0, 25, 1, 1, -1},
                {0, 0, 1, 4, 1, -1}, {0, 0, 1, 1, 4, -1}, {0, 0, 25, 0, 0, 8}, {0, 0, 25, 0, 1, 0}};
            for (int[] a : bad) {
                E.refused("BAD first", made, x -> x.film(a[0], a[1], a[2], a[3], a[4], a[5]), Edges.BAD);
            }
            E.refused("NULL ahead of INDEX", made, x -> x.film(0, 0, 1, 1, 1, -1), Edges.NULL);
            E.refused("NULL of what was dropped", () -> dropped(), x -> x.film(0, 0, 24, 0, 3, 9), Edges.NULL);
            E.refused("CAST ahead of INDEX", made, x -> x.film(0, 0, 24, 0, 2, 0), Edges.CAST);
            E.refused("CAST of no items", made, x -> x.film(0, 0, 1, 3, 1, 0), Edges.CAST);
            E.refused("INDEX", made, x -> x.film(0, 0, 9, 0, 1, 0), Edges.INDEX);
        });
    }

    private static void promise30() {
        Edges.Made made = Edges28To33Test::missing;
        E.edge(30, "a row of a LANE: 0 bytes, 1 shorts, 2 ints, 3 longs, of 0 to 24 items", () -> {
            E.ends("sheet", made, (x, v) -> x.sheet(v, 0, 3), 0, 3, 3, 3);
            E.ends("lane", made, (x, v) -> x.sheet(0, v, 3), 0, 3, 3, 3);
            E.due("no items", made.make().sheet(1, 0, 0), 0);
            E.due("24 items", made.make().sheet(1, 0, 24), 24);
            for (int lane = 0; lane < 4; lane++) {
                YawnKeys x = missing();
                x.sheet(1, lane, 24);
                E.due("the last of lane " + lane, x.item(1, lane, 23, 4), 1);
                x.sheet(1, lane, 0);
                E.due("no first of lane " + lane, x.item(1, lane, 0, 4), Edges.INDEX);
                E.due("but it is there", x.drop(1), 0);
            }
        });
        E.edge(30, "BAD: also n above 24; SIZE: n below 0.", () -> {
            E.refused("25", made, x -> x.sheet(0, 1, 25), Edges.BAD);
            E.refused("far above", made, x -> x.sheet(0, 1, FAR_ABOVE), Edges.BAD);
            E.refused("-1", made, x -> x.sheet(0, 1, -1), Edges.SIZE);
            E.refused("far below", made, x -> x.sheet(0, 1, FAR_BELOW), Edges.SIZE);
            E.refused("-1 where nothing is", made, x -> x.sheet(1, 0, -1), Edges.SIZE);
            E.refused("-1 of no such sheet", made, x -> x.sheet(4, 0, -1), Edges.BAD);
            E.refused("-1 of no such sheet", made, x -> x.sheet(-1, 0, -1), Edges.BAD);
            E.refused("-1 of no such lane", made, x -> x.sheet(0, 4, -1), Edges.BAD);
            E.refused("-1 of no such lane", made, x -> x.sheet(0, -1, -1), Edges.BAD);
        });
        E.edge(30, "A SHEET holds a new row of a LANE: n.", () -> {
            YawnKeys x = missing();
            x.sheet(2, 2, 5);
            E.same("of the same lane", Edges.row(x, 2), "lane 2 0 0 0 0 0 end -13");
            Edges.sheetOf(x, 2, 2, 1, 2, 3);
            x.sheet(2, 0, 2);
            E.same("of another, a shorter one", Edges.row(x, 2), "lane 0 0 0 end -13");
            x.sheet(2, 3, 4);
            E.same("a longer one", Edges.row(x, 2), "lane 3 0 0 0 0 end -13");
            E.same("the others are as before", Edges.row(x, 0), "lane 1 5 5 5 5 5 5 5 5 end -13");
            x.drop(0);
            x.sheet(0, 1, 3);
            E.same("where one was dropped", Edges.row(x, 0), "lane 1 0 0 0 end -13");
        });
    }

    private static void promise31() {
        E.edge(31, "A SHEET holds nothing: how many items it had. BAD; NULL.", () -> {
            E.ends("sheet", Edges28To33Test::missing, (x, v) -> x.drop(v), 0, 3, 8, 0);
            E.refused("nothing is there", Edges28To33Test::missing, x -> x.drop(1), Edges.NULL);
            E.refused("dropped already", Edges28To33Test::dropped, x -> x.drop(0), Edges.NULL);
            YawnKeys x = missing();
            E.due("no items, but a row", x.drop(3), 0);
            E.due("nothing then", x.drop(3), Edges.NULL);
            x.sheet(3, 0, 24);
            E.due("24", x.drop(3), 24);
            E.same("the others are as before", Edges.row(x, 2), "lane 2 1 2 3 4 5 end -13");
        });
    }

    private static void promise32() {
        Edges.Made made = Edges28To33Test::missing;
        E.edge(32, "Item i of a SHEET, taken as a row of a LANE, becomes v", () -> {
            E.due("the first", made.make().item(2, 2, 0, 9), 1);
            E.due("the last", made.make().item(2, 2, 4, 9), 1);
            YawnKeys x = missing();
            x.item(2, 2, 0, 20);
            x.item(2, 2, 4, 0);
            E.same("these two", Edges.row(x, 2), "lane 2 20 2 3 4 0 end -13");
            int[] beyond = {-1, 5, 23, 24, FAR_ABOVE, FAR_BELOW};
            for (int i : beyond) {
                E.refused("item " + i, made, y -> y.item(2, 2, i, 9), Edges.INDEX);
            }
            E.refused("of no items", made, y -> y.item(3, 2, 0, 9), Edges.INDEX);
            E.ends("sheet", Edges28To33Test::lanes, (y, v) -> y.item(v, v & 3, 0, 9), 0, 3, 1, 1);
            E.ends("lane", Edges28To33Test::lanes, (y, v) -> y.item(v & 3, v, 0, 9), 0, 3, 1, 1);
        });
        E.edge(32, "CAST -12 (of SHEETS another LANE)", () -> {
            for (int i = 0; i < 16; i++) {
                int sheet = i / 4;
                int lane = i % 4;
                if (sheet != lane) {
                    E.refused("sheet " + sheet + " as lane " + lane, Edges28To33Test::lanes,
                            x -> x.item(sheet, lane, 0, 9), Edges.CAST);
                }
            }
        });
    }

    /** An item as it is read back: -1, if it is none of 0 .. 20. */
    private static int readBack(int lane, long v) {
        YawnKeys x = lanes();
        E.due("it is taken", x.item(lane, lane, 3, v), 1);
        int wants = x.told(0, 0, lane, lane, 3, 1, 1);
        return wants == 0 ? -1 : Integer.numberOfTrailingZeros(wants);
    }

    private static void promise32LowestBits() {
        E.edge(32, "becomes v, its lowest bits: 1.", () -> {
            int[] bits = {8, 16, 32, 64};
            for (int lane = 0; lane < 4; lane++) {
                for (int bit = 5; bit < 64; bit++) {
                    int due = bit >= bits[lane] ? 3 : -1;
                    E.due("lane " + lane + ", bit " + bit + " more", readBack(lane, (1L << bit) + 3), due);
                    E.due("lane " + lane + ", bit " + bit + " less", readBack(lane, 3 - (1L << bit)), due);
                }
                E.due("lane " + lane + ", 20", readBack(lane, 20), 20);
                E.due("lane " + lane + ", -1", readBack(lane, -1), -1);
                E.due("lane " + lane + ", the greatest", readBack(lane, Long.MAX_VALUE), -1);
                E.due("lane " + lane + ", the least", readBack(lane, Long.MIN_VALUE), lane == 3 ? -1 : 0);
            }
        });
    }

    private static void promise32Order() {
        E.edge(32, "its lowest bits: 1. BAD; NULL; CAST; INDEX.", () -> {
            Edges.Made made = Edges28To33Test::missing;
            E.refused("BAD ahead of all, no such lane", made, x -> x.item(1, 4, -1, 9), Edges.BAD);
            E.refused("BAD ahead of all, no such lane", made, x -> x.item(1, -1, -1, 9), Edges.BAD);
            E.refused("BAD ahead of CAST", made, x -> x.item(0, 4, -1, 9), Edges.BAD);
            E.refused("BAD, no such sheet", made, x -> x.item(4, 0, -1, 9), Edges.BAD);
            E.refused("NULL ahead of INDEX", made, x -> x.item(1, 0, -1, 9), Edges.NULL);
            E.refused("NULL of what was dropped", () -> dropped(), x -> x.item(0, 3, 9, 9), Edges.NULL);
            E.refused("CAST ahead of INDEX", made, x -> x.item(0, 2, 8, 9), Edges.CAST);
            E.refused("CAST of no items", made, x -> x.item(3, 1, 0, 9), Edges.CAST);
        });
    }

    private static YawnKeys copies() {
        YawnKeys x = Due.collegeOf("20/daaaa;----");
        Edges.sheetOf(x, 0, 2, 1, 2, 3, 4, 5, 6);
        Edges.sheetOf(x, 1, 2, 11, 12, 13, 14);
        Edges.sheetOf(x, 2, 3, 7, 8);
        return x;
    }

    private static void copied(String what, int from, int i, int to, int j, int n, String due) {
        YawnKeys x = copies();
        E.due(what, x.copy(from, i, to, j, n), n);
        E.same(what + ", then", Edges.row(x, to), "lane 2 " + due + " end -13");
        if (from != to) {
            E.same(what + ", the other is as before", Edges.row(x, from), Edges.row(copies(), from));
        }
    }

    private static void promise33() {
        E.edge(33, "n items of a SHEET from i on come to another one (or the same) from j on", () -> {
            copied("all", 1, 0, 0, 0, 4, "11 12 13 14 5 6");
            copied("to the end", 1, 0, 0, 2, 4, "1 2 11 12 13 14");
            copied("the last to the first", 0, 5, 1, 0, 1, "6 12 13 14");
            copied("the first to the last", 0, 0, 1, 3, 1, "11 12 13 1");
            copied("none", 0, 0, 1, 0, 0, "11 12 13 14");
            copied("none from the end to the end", 0, 6, 1, 4, 0, "11 12 13 14");
            YawnKeys x = copies();
            x.copy(0, 0, 1, 0, 4);
            x.item(0, 2, 0, 20);
            E.same("each is a row of its own", Edges.row(x, 1), "lane 2 1 2 3 4 end -13");
            for (int lane = 0; lane < 4; lane++) {
                YawnKeys y = copies();
                Edges.sheetOf(y, 2, lane, 9);
                Edges.sheetOf(y, 3, lane, 8);
                E.due("of lane " + lane, y.copy(2, 0, 3, 0, 1), 1);
                E.same("of lane " + lane, Edges.row(y, 3), "lane " + lane + " 9 end -13");
            }
            Edges.sheetOf(x, 3, 3, 0, 0);
            x.item(2, 3, 0, (1L << 32) + 7);
            x.copy(2, 0, 3, 0, 2);
            E.same("a long is whole", Edges.row(x, 3), "lane 3 -1 8 end -13");
        });
        E.edge(33, "as if all were taken ahead: n.", () -> {
            copied("up by one", 0, 0, 0, 1, 5, "1 1 2 3 4 5");
            copied("down by one", 0, 1, 0, 0, 5, "2 3 4 5 6 6");
            copied("up by two", 0, 0, 0, 2, 4, "1 2 1 2 3 4");
            copied("down by two", 0, 2, 0, 0, 4, "3 4 5 6 5 6");
            copied("where they are", 0, 0, 0, 0, 6, "1 2 3 4 5 6");
            copied("side by side", 0, 0, 0, 3, 3, "1 2 3 1 2 3");
            copied("none", 0, 6, 0, 6, 0, "1 2 3 4 5 6");
        });
    }

    private static void promise33Index() {
        E.edge(33, "CAST: of unlike LANES; INDEX.", () -> {
            int[][] beyond = {{0, 0, 5}, {3, 0, 4}, {0, 1, 4}, {6, 0, 1}, {0, 4, 1}, {7, 0, 0}, {0, 5, 0}, {-1, 0, 1}, {0, -1, 1},
                {-1, 0, 0}, {0, -1, 0}, {1, 1, -1}, {0, 0, FAR_BELOW}, {0, 0, FAR_ABOVE}, {1, 0, FAR_ABOVE},
                {0, 1, FAR_ABOVE}, {FAR_ABOVE, 0, 1}, {0, FAR_ABOVE, 1}, {FAR_ABOVE, FAR_ABOVE, FAR_ABOVE},
                {FAR_BELOW, 0, 1}, {0, FAR_BELOW, 1}, {FAR_BELOW, FAR_BELOW, FAR_BELOW}};
            for (int[] a : beyond) {
                E.refused(a[2] + " from " + a[0] + " to " + a[1], Edges28To33Test::copies,
                        x -> x.copy(0, a[0], 1, a[1], a[2]), Edges.INDEX);
            }
            E.refused("in the same one", Edges28To33Test::copies, x -> x.copy(0, 0, 0, 1, 6), Edges.INDEX);
            E.refused("in the same one", Edges28To33Test::copies, x -> x.copy(0, 1, 0, 0, 6), Edges.INDEX);
            E.refused("one of none", Edges28To33Test::missing, x -> x.copy(3, 0, 2, 0, 1), Edges.INDEX);
            E.refused("one to none", Edges28To33Test::missing, x -> x.copy(2, 0, 3, 0, 1), Edges.INDEX);
            E.due("none of none", missing().copy(3, 0, 3, 0, 0), 0);
        });
    }

    private static void promise33Order() {
        E.edge(33, "BAD; NULL (either); CAST: of unlike LANES; INDEX.", () -> {
            Edges.Made made = Edges28To33Test::copies;
            E.ends("from", () -> allInts(), (x, v) -> x.copy(v, 0, 1, 0, 1), 0, 3, 1, 1);
            E.ends("to", () -> allInts(), (x, v) -> x.copy(1, 0, v, 0, 1), 0, 3, 1, 1);
            E.refused("BAD ahead of NULL", made, x -> x.copy(3, -1, 4, 0, 1), Edges.BAD);
            E.refused("BAD ahead of NULL", made, x -> x.copy(-1, -1, 3, 0, 1), Edges.BAD);
            E.refused("NULL, from", made, x -> x.copy(3, 0, 0, 0, 1), Edges.NULL);
            E.refused("NULL, to", made, x -> x.copy(0, 0, 3, 0, 1), Edges.NULL);
            E.refused("NULL, both", made, x -> x.copy(3, 0, 3, 0, 0), Edges.NULL);
            E.refused("NULL ahead of INDEX", made, x -> x.copy(3, -1, 0, 9, -1), Edges.NULL);
            E.refused("NULL ahead of INDEX", made, x -> x.copy(0, -1, 3, 9, -1), Edges.NULL);
            E.refused("NULL of what was dropped, though of another LANE", () -> dropped(), x -> x.copy(0, 0, 2, 0, 1), Edges.NULL);
            E.refused("NULL to what was dropped, though of another LANE", () -> dropped(), x -> x.copy(2, 0, 0, 0, 1), Edges.NULL);
            E.refused("CAST", made, x -> x.copy(0, 0, 2, 0, 1), Edges.CAST);
            E.refused("CAST of none", made, x -> x.copy(2, 0, 0, 0, 0), Edges.CAST);
            E.refused("CAST ahead of INDEX", made, x -> x.copy(0, -1, 2, 9, -1), Edges.CAST);
        });
    }

    private static YawnKeys allInts() {
        YawnKeys x = Due.collegeOf("20/daaaa;----");
        for (int sheet = 0; sheet < 4; sheet++) {
            Edges.sheetOf(x, sheet, 2, 1, 2);
        }
        return x;
    }
}
