/** Promises 28 to 33: sheets that may be missing. Items are read back by told(), which tells of them as they stand. */
public final class SheetsTest {
    private static final Due D = new Due("SheetsTest");
    private static final long[] LANE_BITS = {8, 16, 32, 64};

    public static void main(String[] args) {
        told();
        toldKinds();
        toldRefused();
        film();
        filmRefused();
        sheet();
        drop();
        item();
        copy();
        copyRefused();
        D.end();
    }

    /** By how much the only one, who keeps no key, is told to WANT door 0: the item, or -1 if it is none of 0 .. 20. */
    private static int read(YawnKeys x, int sheet, int lane, int i) {
        int set = x.told(0, 0, sheet, lane, i, 1, 1);
        return set == 0 ? -1 : set < 0 ? set : Integer.numberOfTrailingZeros(set);
    }

    private static YawnKeys one() {
        return Due.collegeOf("20/daaaa;----");
    }

    /** A sheet of ints with these items. */
    private static void fill(YawnKeys x, int sheet, int... items) {
        x.sheet(sheet, 2, items.length);
        for (int i = 0; i < items.length; i++) {
            x.item(sheet, 2, i, items[i]);
        }
    }

    private static void told() {
        YawnKeys x = Due.collegeOf("8/dfaaa/daaaa;0---");
        fill(x, 0, 6, 7, 8, 8, 8, 8, 8, 8);
        D.due("28 kinds: as dull, as curious with one key", x.told(0, 0, 0, 2, 0, 8, 0), 3);
        D.due("28 wants now", x.told(0, 0, 0, 2, 0, 8, 1), 1 << 5);
        // He hands it on at 8: by no other rule.
        D.due("28 rules", x.told(0, 0, 0, 2, 0, 8, 2), 1 << 8);
        D.due("28 rules, by the first three days", x.told(0, 0, 0, 2, 0, 3, 2), ruleSet(8, 20));
        D.due("28 from item 1 on", x.told(0, 0, 0, 2, 1, 2, 1), 1 << 6);
        // By 2 he goes in on the first day: 0, then 1; by a rule above he does not.
        fill(x, 1, 0, 1);
        D.due("28 rule 2 and below", x.told(0, 0, 1, 2, 0, 2, 2), ruleSet(1, 2));
        D.due("28 it may be wanted by 11 and more", x.told(0, 0, 1, 2, 0, 2, 1), ruleSet(11, 20));
        D.due("28 no kind", x.told(0, 0, 1, 2, 0, 2, 0), 0);
        // Who keeps no key stays as he is, whatever his kind and the rule.
        fill(x, 2, 0, 0, 0);
        D.due("28 all kinds", x.told(1, 1, 2, 2, 0, 3, 0), 31);
        D.due("28 by 0", x.told(1, 1, 2, 2, 0, 3, 1), 1);
        D.due("28 all rules", x.told(1, 1, 2, 2, 0, 3, 2), ruleSet(1, 20));
        fill(x, 3, 21);
        for (int what = 0; what < 3; what++) {
            D.due("28 above 20", x.told(0, 0, 3, 2, 0, 1, what), 0);
        }
        x.item(3, 2, 0, -1);
        for (int what = 0; what < 3; what++) {
            D.due("28 below 0", x.told(0, 0, 3, 2, 0, 1, what), 0);
        }
    }

    private static int ruleSet(int from, int to) {
        int set = 0;
        for (int rule = from; rule <= to; rule++) {
            set |= 1 << rule;
        }
        return set;
    }

    /** Two keys tell CURIOUS from DULL; odd days tell COLD; 9 tells BLIND. */
    private static void toldKinds() {
        int[][] rows = {{8, 9, 10, 11}, {9, 11, 13, 15}, {8, 8, 9, 9}, {11, 15, 19, 20}, {8, 8, 9, 9}};
        int[] due = {1, 2, 20, 8, 20};
        for (int kind = 0; kind < 5; kind++) {
            YawnKeys x = Due.collegeOf("20/dhaaa;00--");
            fill(x, 0, rows[kind]);
            D.due("28 kind " + kind, x.told(0, 0, 0, 2, 0, 4, 0), due[kind]);
            D.due("28 his own kind stays", x.of(0, 0), 0);
        }
        YawnKeys x = Due.collegeOf("20/dhaaa;00--");
        fill(x, 0, 8, 8, 9, 9, 10);
        D.due("28 cold", x.told(0, 0, 0, 2, 0, 5, 0), 4);
        fill(x, 0, 8, 8, 9, 9, 9);
        D.due("28 blind", x.told(0, 0, 0, 2, 0, 5, 0), 16);
    }

    private static void toldRefused() {
        YawnKeys x = one();
        x.sheet(0, 1, 8);
        D.due("28 no such one", x.told(1, 0, 0, 1, 0, 1, 0), -1);
        D.due("28 one below 0", x.told(-1, 0, 0, 1, 0, 1, 0), -1);
        D.due("28 door 4", x.told(0, 4, 0, 1, 0, 1, 0), -1);
        D.due("28 door -1", x.told(0, -1, 0, 1, 0, 1, 0), -1);
        D.due("28 sheet 4", x.told(0, 0, 4, 1, 0, 1, 0), -1);
        D.due("28 sheet -1", x.told(0, 0, -1, 1, 0, 1, 0), -1);
        D.due("28 lane 4", x.told(0, 0, 0, 4, 0, 1, 0), -1);
        D.due("28 lane -1", x.told(0, 0, 0, -1, 0, 1, 0), -1);
        D.due("28 n 0", x.told(0, 0, 0, 1, 0, 0, 0), -1);
        D.due("28 n 9", x.told(0, 0, 0, 1, 0, 9, 0), -1);
        D.due("28 what 3", x.told(0, 0, 0, 1, 0, 1, 3), -1);
        D.due("28 what -1", x.told(0, 0, 0, 1, 0, 1, -1), -1);
        D.due("28 bad ahead of null", x.told(0, 0, 1, 1, 0, 9, 0), -1);
        D.due("28 null", x.told(0, 0, 1, 1, 99, 1, 0), -11);
        D.due("28 cast ahead of index", x.told(0, 0, 0, 2, 99, 1, 0), -12);
        D.due("28 index", x.told(0, 0, 0, 1, 1, 8, 0), -13);
        D.due("28 index 8", x.told(0, 0, 0, 1, 8, 1, 0), -13);
        D.due("28 index -1", x.told(0, 0, 0, 1, -1, 1, 0), -13);
        D.due("28 index far above", x.told(0, 0, 0, 1, Integer.MAX_VALUE, 8, 0), -13);
        D.due("28 index far below", x.told(0, 0, 0, 1, Integer.MIN_VALUE, 8, 0), -13);
        D.due("28 all of it", x.told(0, 0, 0, 1, 0, 8, 0), 31);
    }

    private static void film() {
        for (int lane = 0; lane < 4; lane++) {
            YawnKeys x = Due.collegeOf("20/daaaa/lbbbb;1---");
            x.sheet(2, lane, 24);
            D.due("29 film", x.film(1, 0, 5, 2, lane, 3), 5);
            int[] due = {0, 0, 0, 3, 5, 7, 9, 11, 0};
            for (int i = 0; i < due.length; i++) {
                D.due("29 item " + i + " of lane " + lane, read(x, 2, lane, i), due[i]);
            }
            D.due("29 twenty-four", x.film(1, 0, 24, 2, lane, 0), 24);
            D.due("29 the last", read(x, 2, lane, 23), x.ahead(1, 0, 24));
            D.due("29 the first", read(x, 2, lane, 0), 3);
            D.due("29 one", x.film(0, 3, 1, 2, lane, 23), 1);
            D.due("29 the last", read(x, 2, lane, 23), 0);
        }
    }

    private static void filmRefused() {
        YawnKeys x = Due.collegeOf("20/dcaaa;0---");
        x.sheet(0, 1, 6);
        D.due("29 no such one", x.film(1, 0, 1, 0, 1, 0), -1);
        D.due("29 one below 0", x.film(-1, 0, 1, 0, 1, 0), -1);
        D.due("29 door 4", x.film(0, 4, 1, 0, 1, 0), -1);
        D.due("29 door -1", x.film(0, -1, 1, 0, 1, 0), -1);
        D.due("29 n 0", x.film(0, 0, 0, 0, 1, 0), -1);
        D.due("29 n 25", x.film(0, 0, 25, 0, 1, 0), -1);
        D.due("29 sheet 4", x.film(0, 0, 1, 4, 1, 0), -1);
        D.due("29 sheet -1", x.film(0, 0, 1, -1, 1, 0), -1);
        D.due("29 lane 4", x.film(0, 0, 1, 0, 4, 0), -1);
        D.due("29 lane -1", x.film(0, 0, 1, 0, -1, 0), -1);
        D.due("29 null", x.film(0, 0, 1, 1, 1, 99), -11);
        D.due("29 cast", x.film(0, 0, 1, 0, 0, 99), -12);
        D.due("29 index", x.film(0, 0, 6, 0, 1, 1), -13);
        D.due("29 index -1", x.film(0, 0, 1, 0, 1, -1), -13);
        D.due("29 index 6", x.film(0, 0, 1, 0, 1, 6), -13);
        D.due("29 index far above", x.film(0, 0, 24, 0, 1, Integer.MAX_VALUE), -13);
        for (int i = 0; i < 6; i++) {
            D.due("29 refused: item " + i + " stays", x.told(0, 1, 0, 1, i, 1, 1), 1);
        }
        D.due("29 it fits", x.film(0, 0, 6, 0, 1, 0), 6);
    }

    private static void sheet() {
        YawnKeys x = one();
        D.due("30 sheet 4", x.sheet(4, 0, 1), -1);
        D.due("30 sheet -1", x.sheet(-1, 0, 1), -1);
        D.due("30 lane 4", x.sheet(0, 4, 1), -1);
        D.due("30 lane -1", x.sheet(0, -1, 1), -1);
        D.due("30 n 25", x.sheet(0, 0, 25), -1);
        D.due("30 n far above", x.sheet(0, 0, Integer.MAX_VALUE), -1);
        D.due("30 n -1", x.sheet(0, 0, -1), -14);
        D.due("30 n far below", x.sheet(0, 0, Integer.MIN_VALUE), -14);
        D.due("30 n -1, but bad", x.sheet(0, 4, -1), -1);
        D.due("30 refused: nothing there", x.drop(0), -11);
        D.due("30 of none", x.sheet(0, 3, 0), 0);
        D.due("30 it is there", x.item(0, 3, 0, 1), -13);
        D.due("30 of 24", x.sheet(0, 1, 24), 24);
        x.item(0, 1, 5, 9);
        D.due("30 refused", x.sheet(0, 0, -1), -14);
        D.due("30 refused: it stays", read(x, 0, 1, 5), 9);
        D.due("30 a new row", x.sheet(0, 1, 6), 6);
        D.due("30 of 0", read(x, 0, 1, 5), 0);
        x.item(0, 1, 0, 4);
        x.sheet(0, 1, 6);
        D.due("30 of 0, the first, too", read(x, 0, 1, 0), 0);
        D.due("30 of another lane", x.sheet(0, 2, 6), 6);
        D.due("30 of another lane", read(x, 0, 1, 5), -12);
        for (int sheet = 0; sheet < 4; sheet++) {
            D.due("30 each", x.sheet(sheet, sheet, sheet), sheet);
        }
        for (int sheet = 0; sheet < 4; sheet++) {
            D.due("30 each by itself", x.drop(sheet), sheet);
        }
    }

    private static void drop() {
        YawnKeys x = one();
        D.due("31 sheet 4", x.drop(4), -1);
        D.due("31 sheet -1", x.drop(-1), -1);
        D.due("31 nothing", x.drop(0), -11);
        x.sheet(0, 0, 7);
        x.sheet(1, 0, 0);
        D.due("31 seven", x.drop(0), 7);
        D.due("31 none of them", x.drop(1), 0);
        D.due("31 dropped", x.drop(0), -11);
        D.due("31 dropped", x.drop(1), -11);
        D.due("31 nothing to take", x.item(0, 0, 0, 1), -11);
    }

    private static void item() {
        YawnKeys x = one();
        for (int lane = 0; lane < 4; lane++) {
            x.sheet(0, lane, 3);
            D.due("32 item", x.item(0, lane, 2, 20), 1);
            D.due("32 it is so", read(x, 0, lane, 2), 20);
            D.due("32 no other one", read(x, 0, lane, 1), 0);
            long above = LANE_BITS[lane] == 64 ? 0 : 1L << LANE_BITS[lane];
            x.item(0, lane, 0, above + 5);
            D.due("32 lowest bits of lane " + lane, read(x, 0, lane, 0), 5);
            x.item(0, lane, 0, -above + 6);
            D.due("32 lowest bits of lane " + lane, read(x, 0, lane, 0), 6);
            x.item(0, lane, 0, (1L << LANE_BITS[lane] - 1) + 7);
            D.due("32 the highest bit of lane " + lane, read(x, 0, lane, 0), -1);
            x.item(0, lane, 0, Long.MIN_VALUE + 7);
            D.due("32 far below", read(x, 0, lane, 0), lane == 3 ? -1 : 7);
            D.due("32 another lane", x.item(0, (lane + 1) % 4, 99, 1), -12);
            D.due("32 index 3", x.item(0, lane, 3, 1), -13);
            D.due("32 index -1", x.item(0, lane, -1, 1), -13);
            D.due("32 index far above", x.item(0, lane, Integer.MAX_VALUE, 1), -13);
            D.due("32 index far below", x.item(0, lane, Integer.MIN_VALUE, 1), -13);
        }
        D.due("32 sheet 4", x.item(4, 0, 0, 1), -1);
        D.due("32 sheet -1", x.item(-1, 0, 0, 1), -1);
        D.due("32 lane 4", x.item(0, 4, 0, 1), -1);
        D.due("32 lane -1", x.item(0, -1, 0, 1), -1);
        D.due("32 null", x.item(1, 0, 99, 1), -11);
    }

    private static void items(YawnKeys x, String what, int sheet, int... due) {
        for (int i = 0; i < due.length; i++) {
            D.due(what + ", item " + i, read(x, sheet, 2, i), due[i]);
        }
        D.due(what + ", the end", read(x, sheet, 2, due.length), -13);
    }

    private static void copy() {
        YawnKeys x = one();
        fill(x, 0, 1, 2, 3, 4, 5);
        fill(x, 1, 11, 12, 13, 14);
        D.due("33 to another", x.copy(0, 1, 1, 2, 2), 2);
        items(x, "33 to another", 1, 11, 12, 2, 3);
        items(x, "33 from it", 0, 1, 2, 3, 4, 5);
        D.due("33 to the same, up", x.copy(0, 0, 0, 1, 4), 4);
        items(x, "33 up", 0, 1, 1, 2, 3, 4);
        fill(x, 0, 1, 2, 3, 4, 5);
        D.due("33 to the same, down", x.copy(0, 1, 0, 0, 4), 4);
        items(x, "33 down", 0, 2, 3, 4, 5, 5);
        D.due("33 to itself", x.copy(0, 0, 0, 0, 5), 5);
        D.due("33 none", x.copy(0, 0, 1, 0, 0), 0);
        D.due("33 none at the end", x.copy(0, 5, 1, 4, 0), 0);
        items(x, "33 none", 1, 11, 12, 2, 3);
        x.sheet(2, 2, 0);
        D.due("33 none of none", x.copy(2, 0, 2, 0, 0), 0);
        x.sheet(2, 0, 2);
        x.sheet(3, 0, 2);
        x.item(2, 0, 1, 9);
        x.copy(2, 0, 3, 0, 2);
        D.due("33 bytes", read(x, 3, 0, 1), 9);
        x.item(2, 0, 1, 4);
        D.due("33 each its own", read(x, 3, 0, 1), 9);
    }

    private static void copyRefused() {
        YawnKeys x = one();
        fill(x, 0, 1, 2, 3, 4, 5);
        fill(x, 1, 11, 12, 13);
        x.sheet(2, 3, 5);
        D.due("33 from 4", x.copy(4, 0, 1, 0, 1), -1);
        D.due("33 from -1", x.copy(-1, 0, 1, 0, 1), -1);
        D.due("33 to 4", x.copy(3, 0, 4, 0, 1), -1);
        D.due("33 to -1", x.copy(0, 0, -1, 0, 1), -1);
        D.due("33 from nothing", x.copy(3, 99, 1, 0, 1), -11);
        D.due("33 to nothing", x.copy(0, 99, 3, 0, 1), -11);
        D.due("33 unlike lanes", x.copy(0, 99, 2, 0, 1), -12);
        D.due("33 unlike lanes, none", x.copy(2, 0, 0, 0, 0), -12);
        D.due("33 beyond the first", x.copy(0, 3, 1, 0, 3), -13);
        D.due("33 beyond the second", x.copy(0, 0, 1, 1, 3), -13);
        D.due("33 none beyond the first", x.copy(0, 6, 1, 0, 0), -13);
        D.due("33 none beyond the second", x.copy(0, 0, 1, 4, 0), -13);
        D.due("33 i -1", x.copy(0, -1, 1, 0, 1), -13);
        D.due("33 j -1", x.copy(0, 0, 1, -1, 1), -13);
        D.due("33 n -1", x.copy(0, 1, 1, 1, -1), -13);
        D.due("33 far above", x.copy(0, Integer.MAX_VALUE, 1, 0, Integer.MAX_VALUE), -13);
        D.due("33 far above", x.copy(0, 1, 1, 0, Integer.MAX_VALUE), -13);
        D.due("33 far below", x.copy(0, 0, 1, 0, Integer.MIN_VALUE), -13);
        items(x, "33 refused: it stays", 1, 11, 12, 13);
    }
}
