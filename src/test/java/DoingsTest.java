/** Promises 10 to 15: days, talk, give, drift, undo, seed. */
public final class DoingsTest {
    private static final Due D = new Due("DoingsTest");

    public static void main(String[] args) {
        days();
        handedOn();
        goneIn();
        lastDay();
        talk();
        give();
        drift();
        undo();
        undoneWhateverWasTold();
        onlyEightAreKnown();
        seed();
        D.end();
    }

    private static void same(String what, String got, String want) {
        D.due(what + ": " + got + " for " + want, got.equals(want) ? 1 : 0, 1);
    }

    private static void days() {
        YawnKeys x = Due.collegeOf("8/daaaa;0---");
        D.due("10 days(0)", x.days(0), -1);
        D.due("10 days(41)", x.days(41), -1);
        D.due("10 days(-1)", x.days(-1), -1);
        D.due("10 refused: the day stays", x.count(1), 0);
        D.due("10 days(5)", x.days(5), 0);
        D.due("10 the day", x.count(1), 5);
        D.due("10 the want", x.wants(0, 0), 5);
        D.due("10 each may be undone", x.count(7), 5);
        // 8 on day 8, to himself; 12 behind 12 days: gone in; then every 12 days again.
        D.due("10 days(40)", x.days(40), 3);
        D.due("10 gone in", x.count(3), 3);
        D.due("10 the want", x.wants(0, 0), 45 - 36);
    }

    private static void handedOn() {
        YawnKeys x = Due.collegeOf("8/dhaaa/daaaa/daaaa;0---");
        x.days(1);
        D.due("10 by the rule to the least, the first of like ones", x.at(0, 0), 1);
        D.due("10 he wants it still", x.wants(0, 0), 8);
        YawnKeys above = Due.collegeOf("8/dkaaa/dgaaa/dfaaa;0---");
        above.days(1);
        D.due("10 below rule and 4", above.at(0, 0), 2);
        D.due("10 none has gone in", above.count(3), 0);
        YawnKeys below = Due.collegeOf("8/dgaaa/daaaa;0---");
        below.days(1);
        D.due("10 below the rule he keeps it", below.at(0, 0), 0);
        YawnKeys himself = Due.collegeOf("8/dhaaa/diaaa;0---");
        himself.days(1);
        D.due("10 to himself, as the first of like ones", himself.at(0, 0), 0);
        YawnKeys later = Due.collegeOf("8/diaaa/dhaaa;-1--");
        later.give(0, 1);
        later.days(1);
        D.due("10 to the first of like ones", later.at(0, 0), 0);
        // A keeper who is handed a second key grows by both on the next day only.
        YawnKeys both = Due.collegeOf("8/dhaaa/caaaa;0-1-");
        both.days(1);
        D.due("10 curious had one key ahead of the day", both.wants(1, 2), 1);
        both.days(1);
        D.due("10 curious has two", both.wants(1, 2), 3);
        D.due("10 curious has two", both.wants(1, 0), 2);
    }

    private static void goneIn() {
        YawnKeys x = Due.collegeOf("8/dlkaa/daaaa;00--");
        D.due("10 by rule and 4", x.days(1), 1);
        D.due("10 he keeps the key", x.at(0, 0), 0);
        D.due("10 he wants it by 0", x.wants(0, 0), 0);
        D.due("10 the other one is handed on", x.at(1, 0), 1);
        D.due("10 and wanted still", x.wants(0, 1), 11);
        YawnKeys all = Due.collegeOf("1/duuuu;0000");
        D.due("10 four doors in a day", all.days(1), 4);
        YawnKeys nail = Due.collegeOf("1/duuuu;----");
        D.due("10 none on the nail", nail.days(9), 0);
        D.due("10 nor wanted more or less", nail.count(5), 80);
        // Rule and 4 above 20 can't be reached.
        YawnKeys strict = Due.collegeOf("17/duuuu;0000");
        D.due("10 rule 17", strict.days(40), 0);
        YawnKeys sixteen = Due.collegeOf("16/duuuu;0000");
        D.due("10 rule 16", sixteen.days(1), 4);
    }

    private static void lastDay() {
        YawnKeys x = new YawnKeys();
        for (int i = 0; i < 249; i++) {
            x.days(40);
        }
        D.due("10 the day", x.count(1), 9960);
        D.due("10 above 9999", x.days(40), -3);
        D.due("13 above 9999", x.drift(40), -3);
        D.due("13 refused: the draw stays", x.seed(1), 1);
        D.due("10 above 9999, but bad", x.days(41), -1);
        D.due("10 to 9999", x.days(39), 0);
        D.due("10 one more", x.days(1), -3);
        D.due("13 one more", x.drift(1), -3);
        D.due("10 the day", x.count(1), 9999);
        D.due("18 it can be foretold", x.then(60), 0);
        x.undo();
        D.due("14 the day", x.count(1), 9998);
    }

    private static void talk() {
        YawnKeys x = Due.collegeOf("8/dabcd/dstua;----");
        D.due("11 no such one", x.talk(2, 0, 1), -1);
        D.due("11 below 0", x.talk(-1, 0, 1), -1);
        D.due("11 door 4", x.talk(0, 4, 1), -1);
        D.due("11 door -1", x.talk(0, -1, 1), -1);
        D.due("11 by 0", x.talk(0, 0, 0), -1);
        D.due("11 by 21", x.talk(0, 0, 21), -1);
        D.due("11 by 20, bad ahead of not", x.talk(1, 2, 21), -1);
        D.due("11 at 20", x.talk(1, 2, 1), -2);
        D.due("11 refused: nothing to be undone", x.count(7), 0);
        D.due("11 by 1", x.talk(0, 1, 1), 2);
        D.due("11 by 20", x.talk(0, 0, 20), 20);
        D.due("11 20 at most", x.talk(1, 0, 20), 20);
        D.due("11 he wants it so", x.wants(0, 1), 2);
        D.due("11 other doors stay", x.wants(0, 2), 2);
        D.due("11 no day", x.count(1), 0);
        D.due("11 three to be undone", x.count(7), 3);
    }

    private static void give() {
        YawnKeys x = Due.collegeOf("8/daaaa/daaaa;0---");
        D.due("12 door 4", x.give(4, 0), -1);
        D.due("12 door -1", x.give(-1, 0), -1);
        D.due("12 no such one", x.give(0, 2), -1);
        D.due("12 -1", x.give(0, -1), -1);
        D.due("12 -3", x.give(0, -3), -1);
        D.due("12 -5", x.give(0, -5), -1);
        D.due("12 it is so", x.give(0, 0), -2);
        D.due("12 it is on the nail", x.give(1, -4), -2);
        D.due("12 refused: nothing to be undone", x.count(7), 0);
        D.due("12 to another", x.give(0, 1), 0);
        D.due("12 from the nail", x.give(1, 1), -4);
        D.due("12 he has both", x.of(1, 1), 3);
        D.due("12 on the nail", x.give(0, -4), 1);
        D.due("12 on the nail", x.at(0, 0), -4);
        D.due("12 three to be undone", x.count(7), 3);
        D.due("12 nobody to give to", new YawnKeys().give(0, 0), -1);
    }

    private static void drift() {
        YawnKeys x = Due.collegeOf("20/daaaa/daaaa/daaaa;----");
        D.due("13 drift(0)", x.drift(0), -1);
        D.due("13 drift(41)", x.drift(41), -1);
        D.due("13 refused: the draw stays", x.seed(1), 1);
        // 1103515245 + 12345 = 1103527590: by 65536 16838, of three 2; by 256 4310654, of four 2; by 1024 1077663, 3.
        D.due("13 drift(1)", x.drift(1), 0);
        D.due("13 the draw", x.seed(1103527590), 1103527590);
        D.due("13 talked to", x.wants(2, 2), 3);
        D.due("13 no other", x.count(5), 3);
        D.due("13 the day", x.count(1), 1);
        D.due("13 one to be undone", x.count(7), 1);
        // The next draw is 377401575: by 65536 5758, of three 1; by 256 1474224, of four 0; by 1024 368556, 0.
        x.drift(1);
        D.due("13 the draw", x.seed(377401575), 377401575);
        D.due("13 talked to by 0", x.count(5), 3);
        // 13 makes the draw 1460808642: by 65536 22290, of three 0; by 256 5706283, of four 3; by 1024 1426570, 2.
        YawnKeys thirteen = Due.collegeOf("20/daaaa/daaaa/daaaa;----");
        thirteen.seed(13);
        thirteen.drift(1);
        D.due("13 the draw", thirteen.seed(1), 1460808642);
        D.due("13 talked to", thirteen.wants(0, 3), 2);
        D.due("13 no other", thirteen.count(5), 2);
        YawnKeys single = Due.collegeOf("20/daaaa;----");
        single.drift(1);
        D.due("13 the only one", single.wants(0, 2), 3);
        // He is talked to ahead of the day: 11 and 3 are rule and 4 with the day's own 1.
        YawnKeys y = Due.collegeOf("8/daaaa/daaaa/daaia;--2-");
        D.due("13 gone in", y.drift(1), 1);
        D.due("13 wanted by 0 then", y.wants(2, 2), 0);
        YawnKeys most = Due.collegeOf("20/daaaa/daaaa/daata;----");
        most.drift(1);
        D.due("13 20 at most", most.wants(2, 2), 20);
        YawnKeys nobody = new YawnKeys();
        D.due("13 nobody", nobody.drift(2), 0);
        D.due("13 the draw goes on", nobody.seed(1), 377401575);
        D.due("13 the days too", nobody.count(1), 2);
        D.due("13 drift(40)", nobody.drift(40), 0);
    }

    private static void undo() {
        YawnKeys x = Due.collegeOf("3/daaaa/lbbbb;01-1");
        D.due("14 none", x.undo(), -4);
        String[] seen = new String[9];
        seen[0] = Due.look(x);
        x.talk(1, 1, 5);
        seen[1] = Due.look(x);
        x.give(2, 0);
        seen[2] = Due.look(x);
        x.days(1);
        seen[3] = Due.look(x);
        x.drift(1);
        seen[4] = Due.look(x);
        x.give(0, -4);
        for (int left = 4; left >= 0; left--) {
            D.due("14 left", x.undo(), left);
            same("14 as ahead of it", Due.look(x), seen[left]);
        }
        D.due("14 none is left", x.undo(), -4);
        x.days(2);
        x.undo();
        D.due("14 a day by itself", x.count(1), 1);
        x.drift(3);
        x.undo();
        D.due("14 a day of a drift by itself", x.count(1), 3);
        D.due("14 known", x.count(7), 3);
    }

    private static void undoneWhateverWasTold() {
        YawnKeys x = Due.collegeOf("8/daaaa;0---");
        x.seed(5);
        x.talk(0, 0, 2);
        x.seed(9);
        x.rule(4);
        x.undo();
        D.due("14 the draw is as ahead of it", x.seed(5), 5);
        D.due("14 the rule is as told since", x.count(2), 4);
        x.talk(0, 0, 2);
        x.type('8');
        x.sheet(0, 2, 4);
        x.image();
        x.undo();
        D.due("14 the tape stays", x.type('8'), 2);
        D.due("14 sheets stay", x.drop(0), 4);
        D.due("14 the image stays", x.restore(), 1);
        D.due("14 the image's want", x.wants(0, 0), 2);
    }

    private static void onlyEightAreKnown() {
        YawnKeys x = Due.collegeOf("20/daaaa/daaaa;----");
        for (int i = 1; i <= 11; i++) {
            x.talk(0, 0, 1);
            D.due("14 known", x.count(7), Math.min(i, 8));
        }
        for (int left = 7; left >= 0; left--) {
            D.due("14 left", x.undo(), left);
            D.due("14 want", x.wants(0, 0), left + 3);
        }
        D.due("14 older ones are lost", x.undo(), -4);
        x.days(40);
        D.due("14 of forty", x.count(7), 8);
        for (int left = 7; left >= 0; left--) {
            D.due("14 left", x.undo(), left);
            D.due("14 day", x.count(1), 32 + left);
        }
        D.due("14 none", x.undo(), -4);
    }

    private static void seed() {
        YawnKeys x = new YawnKeys();
        D.due("15 seed(5)", x.seed(5), 1);
        D.due("15 below 0", x.seed(-1), -1);
        D.due("15 far below 0", x.seed(Integer.MIN_VALUE), -1);
        D.due("15 the greatest", x.seed(Integer.MAX_VALUE), 5);
        x.drift(1);
        // 2147483647 is -1 in 31 bits: 12345 less 1103515245, and 2147483648 more.
        D.due("15 31 bits", x.seed(0), 12345L - 1103515245L + 2147483648L);
        D.due("15 nothing more to be undone", x.count(7), 1);
        x.drift(1);
        D.due("15 from 0", x.seed(0), 12345);
    }
}
