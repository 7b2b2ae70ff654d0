import java.math.BigInteger;
import java.util.ArrayList;
import java.util.List;

/**
 * The document once more, written slowly and apart from the class: copies instead of rows that are used again, kinds
 * below one another, every way tried, every answer of the asked ones enumerated.
 */
final class Model {
    private static final int BAD = -1, NOT = -2, FULL = -3, NONE = -4, NULL = -11, CAST = -12, INDEX = -13, SIZE = -14;

    /** How wants grow: each kind stands below the one that it is told by. */
    private static class Dull {
        int more(State s, int person, int door) {
            return 1;
        }
    }

    private static class Curious extends Dull {
        @Override
        int more(State s, int person, int door) {
            int more = super.more(s, person, door);
            for (int other = 0; other < 4; other++) {
                more += other != door && s.key[other] == person ? 1 : 0;
            }
            return more;
        }
    }

    private static class Cold extends Dull {
        @Override
        int more(State s, int person, int door) {
            return s.day % 2 == 1 ? 0 : super.more(s, person, door);
        }
    }

    private static class Lover extends Curious {
        @Override
        int more(State s, int person, int door) {
            return 2 * super.more(s, person, door);
        }
    }

    private static class Blind extends Cold {
        @Override
        int more(State s, int person, int door) {
            return s.want.get(person)[door] >= 9 ? 0 : super.more(s, person, door);
        }
    }

    private static final Dull[] KINDS = {new Dull(), new Curious(), new Cold(), new Lover(), new Blind()};

    private static final class State {
        List<Integer> kind = new ArrayList<>();
        List<int[]> want = new ArrayList<>();
        int[] key = {NONE, NONE, NONE, NONE};
        int rule = 8;
        int day = 0;
        int gone = 0;
        int draw = 1;

        State copied() {
            State s = new State();
            s.kind = new ArrayList<>(kind);
            for (int[] row : want) {
                s.want.add(row.clone());
            }
            s.key = key.clone();
            s.rule = rule;
            s.day = day;
            s.gone = gone;
            s.draw = draw;
            return s;
        }

        int more(int door) {
            return key[door] == NONE ? 0 : KINDS[kind.get(key[door])].more(this, key[door], door);
        }

        int least(int door) {
            int least = NONE;
            for (int p = want.size() - 1; p >= 0; p--) {
                least = least == NONE || want.get(p)[door] <= want.get(least)[door] ? p : least;
            }
            return least;
        }

        /** The state behind a day; the doors that were gone in are added to the list. */
        State next(List<Integer> goneIn) {
            State s = copied();
            for (int door = 0; door < 4; door++) {
                if (key[door] != NONE) {
                    s.want.get(key[door])[door] = Math.min(20, want.get(key[door])[door] + more(door));
                }
            }
            for (int door = 0; door < 4; door++) {
                int wanted = s.key[door] == NONE ? 0 : s.want.get(s.key[door])[door];
                if (s.key[door] != NONE && wanted >= rule + 4) {
                    s.gone++;
                    s.want.get(s.key[door])[door] = 0;
                    goneIn.add(door);
                } else if (s.key[door] != NONE && wanted >= rule) {
                    s.key[door] = s.least(door);
                }
            }
            s.day++;
            return s;
        }

        State behind(int n) {
            State s = this;
            for (int i = 0; i < n; i++) {
                s = s.next(new ArrayList<>());
            }
            return s;
        }

        int firstGone(int door, int n) {
            State s = this;
            for (int i = 1; i <= n; i++) {
                List<Integer> goneIn = new ArrayList<>();
                s = s.next(goneIn);
                if (goneIn.contains(door)) {
                    return i;
                }
            }
            return NONE;
        }
    }

    private State s = new State();
    private List<State> past = new ArrayList<>();
    private State imaged = null;
    private List<State> imagedPast = null;
    private String tape = "";
    private final Object[] sheets = new Object[4];

    private boolean one(int person) {
        return person >= 0 && person < s.want.size();
    }

    private static boolean door(int door) {
        return door >= 0 && door < 4;
    }

    private static boolean days(int n, int least, int most) {
        return n >= least && n <= most;
    }

    private void remember() {
        past.add(s.copied());
        if (past.size() > 8) {
            past.remove(0);
        }
    }

    int person(int kind, int want) {
        if (kind < 0 || kind > 4 || want < 0 || want > 20) {
            return BAD;
        }
        if (s.want.size() == 5) {
            return FULL;
        }
        s.kind.add(kind);
        s.want.add(new int[] {want, want, want, want});
        past.clear();
        return s.want.size() - 1;
    }

    int rule(int v) {
        if (v < 1 || v > 20) {
            return BAD;
        }
        int was = s.rule;
        s.rule = v;
        return was;
    }

    int wants(int person, int door) {
        return one(person) && door(door) ? s.want.get(person)[door] : BAD;
    }

    int of(int person, int what) {
        if (!one(person) || what < 0 || what > 2) {
            return BAD;
        }
        int keys = 0;
        int sum = 0;
        for (int d = 0; d < 4; d++) {
            keys += s.key[d] == person ? 1 << d : 0;
            sum += s.want.get(person)[d];
        }
        return what == 0 ? s.kind.get(person) : what == 1 ? keys : sum;
    }

    int at(int door, int what) {
        if (!door(door) || what < 0 || what > 2) {
            return BAD;
        }
        return what == 0 ? s.key[door] : what == 1 ? s.more(door) : s.least(door);
    }

    int type(int letter) {
        if (letter < 32 || letter > 126) {
            return BAD;
        }
        if (tape.length() == 50) {
            return FULL;
        }
        tape += (char) letter;
        return tape.length();
    }

    /** Blanks are taken out first, each letter left with its place; a blank behind a digit still ends the number. */
    int college() {
        String text = tape;
        tape = "";
        List<Integer> places = new ArrayList<>();
        for (int i = 0; i < text.length(); i++) {
            if (text.charAt(i) != ' ') {
                places.add(i);
            }
        }
        State made = new State();
        made.draw = s.draw;
        int fault = read(text, places, made);
        if (fault >= 0) {
            return -20 - fault;
        }
        s = made;
        past.clear();
        return s.want.size();
    }

    /** The place of a fault, or -1. */
    private static int read(String text, List<Integer> places, State made) {
        int end = text.length();
        if (places.isEmpty()) {
            return end;
        }
        int first = places.get(0);
        int digits = 0;
        while (digits < 2 && first + digits < end && Character.isDigit(text.charAt(first + digits))) {
            digits++;
        }
        if (digits == 0) {
            return first;
        }
        made.rule = Integer.parseInt(text.substring(first, first + digits));
        if (made.rule < 1 || made.rule > 20) {
            return first;
        }
        // What may stand next, as a text of all such letters, by how far a person and the keys are written.
        int at = 0;
        for (int k = digits; k < places.size(); k++) {
            char c = text.charAt(places.get(k));
            if (allowed(at, made.want.size()).indexOf(c) < 0) {
                return places.get(k);
            }
            if (at == 0 && c == ';') {
                at = 6;
                continue;
            }
            if (at == 1) {
                made.kind.add("dcolb".indexOf(c));
                made.want.add(new int[4]);
            } else if (at >= 2 && at <= 5) {
                made.want.get(made.want.size() - 1)[at - 2] = c - 'a';
            } else if (at >= 6) {
                made.key[at - 6] = c == '-' ? NONE : c - '0';
            }
            at = at == 5 ? 0 : at + 1;
        }
        return at == 10 ? -1 : end;
    }

    /** At 0: a person's / or the ; of keys; 1: a kind; 2 to 5: wants; 6 to 9: keys; 10: nothing more. */
    private static String allowed(int at, int people) {
        if (at == 0) {
            return (people < 5 ? "/" : "") + (people > 0 ? ";" : "");
        }
        if (at == 1) {
            return "dcolb";
        }
        return at <= 5 ? "abcdefghijklmnopqrstu" : at <= 9 ? "-" + "01234".substring(0, people) : "";
    }

    int count(int what) {
        int nails = 0;
        int sum = 0;
        int keepers = 0;
        for (int d = 0; d < 4; d++) {
            nails |= s.key[d] == NONE ? 1 << d : 0;
            keepers |= s.key[d] == NONE ? 0 : 1 << s.key[d];
            for (int[] row : s.want) {
                sum += row[d];
            }
        }
        int[] all = {s.want.size(), s.day, s.rule, s.gone, nails, sum, keepers, past.size()};
        return what >= 0 && what < 8 ? all[what] : BAD;
    }

    int days(int n) {
        return live(n, false);
    }

    int drift(int n) {
        return live(n, true);
    }

    private int live(int n, boolean drifting) {
        if (!days(n, 1, 40)) {
            return BAD;
        }
        if (s.day + n > 9999) {
            return FULL;
        }
        int was = s.gone;
        for (int i = 0; i < n; i++) {
            remember();
            if (drifting) {
                BigInteger next = BigInteger.valueOf(s.draw).multiply(BigInteger.valueOf(1103515245))
                        .add(BigInteger.valueOf(12345)).mod(BigInteger.ONE.shiftLeft(31));
                s.draw = next.intValueExact();
                if (!s.want.isEmpty()) {
                    int[] row = s.want.get((s.draw >> 16) % s.want.size());
                    int d = s.draw >> 8 & 3;
                    row[d] = Math.min(20, row[d] + (s.draw >> 10 & 3));
                }
            }
            s = s.next(new ArrayList<>());
        }
        return s.gone - was;
    }

    int talk(int person, int door, int n) {
        if (!one(person) || !door(door) || !days(n, 1, 20)) {
            return BAD;
        }
        if (s.want.get(person)[door] == 20) {
            return NOT;
        }
        remember();
        s.want.get(person)[door] = Math.min(20, s.want.get(person)[door] + n);
        return s.want.get(person)[door];
    }

    int give(int door, int person) {
        if (!door(door) || !one(person) && person != NONE) {
            return BAD;
        }
        if (s.key[door] == person) {
            return NOT;
        }
        remember();
        int was = s.key[door];
        s.key[door] = person;
        return was;
    }

    int undo() {
        if (past.isEmpty()) {
            return NONE;
        }
        int rule = s.rule;
        s = past.remove(past.size() - 1);
        s.rule = rule;
        return past.size();
    }

    int seed(int v) {
        if (v < 0) {
            return BAD;
        }
        int was = s.draw;
        s.draw = v;
        return was;
    }

    int keeper(int door, int n) {
        return door(door) && days(n, 0, 60) ? s.behind(n).key[door] : BAD;
    }

    int ahead(int person, int door, int n) {
        return one(person) && door(door) && days(n, 0, 60) ? s.behind(n).want.get(person)[door] : BAD;
    }

    int then(int n) {
        return days(n, 0, 60) ? s.behind(n).gone : BAD;
    }

    int in(int door) {
        return door(door) ? s.firstGone(door, 60) : BAD;
    }

    int holds(int door) {
        if (!door(door)) {
            return BAD;
        }
        int gone = s.firstGone(door, 60);
        for (int n = 1; n <= (gone == NONE ? 60 : gone); n++) {
            if (s.behind(n).key[door] != s.key[door]) {
                return n;
            }
        }
        return gone;
    }

    int had(int door, int n) {
        if (!door(door) || !days(n, 0, 60)) {
            return BAD;
        }
        int set = 0;
        for (int i = 0; i <= n; i++) {
            int who = s.behind(i).key[door];
            set |= who == NONE ? 0 : 1 << who;
        }
        return set;
    }

    int keep(int n, int door) {
        if (!days(n, 1, 30) || door < -2 || door > 3) {
            return BAD;
        }
        int people = s.want.size();
        int[] best = null;
        for (int a = 0; a < people; a++) {
            for (int b = 0; b < people; b++) {
                for (int c = 0; c < people; c++) {
                    for (int d = 0; d < people; d++) {
                        int[] way = weighed(n, a, b, c, d);
                        if (best == null || way[0] < best[0] || way[0] == best[0] && way[1] < best[1]) {
                            best = way;
                        }
                    }
                }
            }
        }
        return best == null ? NONE : door == -1 ? best[0] : door == -2 ? best[1] : best[2 + door];
    }

    private int[] weighed(int n, int a, int b, int c, int d) {
        State t = s.copied();
        t.key = new int[] {a, b, c, d};
        int others = 0;
        for (int i = 0; i < 4; i++) {
            others += t.key[i] == s.key[i] ? 0 : 1;
        }
        return new int[] {t.behind(n).gone - s.gone, others, a, b, c, d};
    }

    int tempt(int door, int n) {
        if (!door(door) || !days(n, 1, 30)) {
            return BAD;
        }
        for (int more = 0; more <= 20 && s.key[door] != NONE; more++) {
            State t = s.copied();
            int[] row = t.want.get(t.key[door]);
            row[door] = Math.min(20, row[door] + more);
            if (t.firstGone(door, n) != NONE) {
                return more;
            }
        }
        return NONE;
    }

    int strict(int n) {
        if (!days(n, 1, 30)) {
            return BAD;
        }
        int found = NONE;
        for (int rule = 1; rule <= 20; rule++) {
            State t = s.copied();
            t.rule = rule;
            found = t.behind(n).gone == s.gone ? rule : found;
        }
        return found;
    }

    /** Each set of those who tell the other way round, by how many of 10 to the power of PEOPLE it comes. */
    int yawn(int door, int c, int what) {
        if (!door(door) || c < 0 || c > 10 || what < 0 || what > 1) {
            return BAD;
        }
        int people = s.want.size();
        BigInteger likely = BigInteger.ZERO;
        for (int liars = 0; liars < 1 << people; liars++) {
            long weight = 1;
            boolean such = true;
            for (int p = 0; p < people; p++) {
                boolean lies = (liars >> p & 1) == 1;
                boolean wants = s.want.get(p)[door] >= s.rule;
                boolean saysNot = wants == lies;
                weight *= lies ? c : 10 - c;
                such &= !saysNot || !wants;
            }
            likely = such ? likely.add(BigInteger.valueOf(weight)) : likely;
        }
        BigInteger all = BigInteger.TEN.pow(people);
        BigInteger common = likely.gcd(all);
        return (what == 0 ? likely : all).divide(common).intValueExact();
    }

    int image() {
        imaged = s.copied();
        imagedPast = new ArrayList<>();
        for (State one : past) {
            imagedPast.add(one.copied());
        }
        return 1;
    }

    int restore() {
        if (imaged == null) {
            return NONE;
        }
        s = imaged.copied();
        past = new ArrayList<>();
        for (State one : imagedPast) {
            past.add(one.copied());
        }
        return 1;
    }

    /** What the machine finds when it takes n items from i on as a row of a lane: 0, if nothing. */
    private int found(int sheet, int lane, int i, int n) {
        if (sheets[sheet] == null) {
            return NULL;
        }
        Object row = java.lang.reflect.Array.newInstance(sheets[sheet].getClass().getComponentType(), 0);
        if (!row.getClass().equals(rowOf(lane, 0).getClass())) {
            return CAST;
        }
        long size = java.lang.reflect.Array.getLength(sheets[sheet]);
        return n < 0 || i < 0 || (long) i + n > size ? INDEX : 0;
    }

    private static Object rowOf(int lane, int n) {
        return lane == 0 ? new byte[n] : lane == 1 ? new short[n] : lane == 2 ? new int[n] : new long[n];
    }

    private void put(int sheet, int i, long v) {
        Object row = sheets[sheet];
        if (row instanceof byte[] bytes) {
            bytes[i] = (byte) v;
        } else if (row instanceof short[] shorts) {
            shorts[i] = (short) v;
        } else if (row instanceof int[] ints) {
            ints[i] = (int) v;
        } else if (row instanceof long[] longs) {
            longs[i] = v;
        }
    }

    private boolean tells(State t, int person, int door, int sheet, int i, int n) {
        for (int k = 0; k < n; k++) {
            if (java.lang.reflect.Array.getLong(sheets[sheet], i + k) != t.behind(k + 1).want.get(person)[door]) {
                return false;
            }
        }
        return true;
    }

    int told(int person, int door, int sheet, int lane, int i, int n, int what) {
        if (!one(person) || !door(door) || !door(sheet) || !door(lane) || !days(n, 1, 8) || what < 0 || what > 2) {
            return BAD;
        }
        if (found(sheet, lane, i, n) != 0) {
            return found(sheet, lane, i, n);
        }
        int set = 0;
        for (int v = 0; v <= 20; v++) {
            if (what == 0 && v > 4 || what == 2 && v == 0) {
                continue;
            }
            State t = s.copied();
            if (what == 0) {
                t.kind.set(person, v);
            } else if (what == 1) {
                t.want.get(person)[door] = v;
            } else {
                t.rule = v;
            }
            set |= tells(t, person, door, sheet, i, n) ? 1 << v : 0;
        }
        return set;
    }

    int film(int person, int door, int n, int sheet, int lane, int i) {
        if (!one(person) || !door(door) || !days(n, 1, 24) || !door(sheet) || !door(lane)) {
            return BAD;
        }
        if (found(sheet, lane, i, n) != 0) {
            return found(sheet, lane, i, n);
        }
        for (int k = 1; k <= n; k++) {
            put(sheet, i + k - 1, s.behind(k).want.get(person)[door]);
        }
        return n;
    }

    int sheet(int sheet, int lane, int n) {
        if (!door(sheet) || !door(lane) || n > 24) {
            return BAD;
        }
        if (n < 0) {
            return SIZE;
        }
        sheets[sheet] = rowOf(lane, n);
        return n;
    }

    int drop(int sheet) {
        if (!door(sheet)) {
            return BAD;
        }
        if (sheets[sheet] == null) {
            return NULL;
        }
        int had = java.lang.reflect.Array.getLength(sheets[sheet]);
        sheets[sheet] = null;
        return had;
    }

    int item(int sheet, int lane, int i, long v) {
        if (!door(sheet) || !door(lane)) {
            return BAD;
        }
        int found = found(sheet, lane, i, 1);
        if (found == 0) {
            put(sheet, i, v);
        }
        return found == 0 ? 1 : found;
    }

    /** Here the machine itself is asked. */
    int copy(int from, int i, int to, int j, int n) {
        if (!door(from) || !door(to)) {
            return BAD;
        }
        try {
            System.arraycopy(sheets[from], i, sheets[to], j, n);
            return n;
        } catch (NullPointerException e) {
            return NULL;
        } catch (ArrayStoreException e) {
            return CAST;
        } catch (IndexOutOfBoundsException e) {
            return INDEX;
        }
    }
}
