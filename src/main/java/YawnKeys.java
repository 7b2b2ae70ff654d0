/** The keys of a discreet college, each with whoever wants in least. Promises bear the document's numbers. */
public final class YawnKeys {
    public static final int BAD = -1, NOT = -2, FULL = -3, NONE = -4, NULL = -11, CAST = -12, INDEX = -13, SIZE = -14;

    private static final int DOORS = 4;
    private static final int MOST_PEOPLE = 5;
    private static final int MOST_WANT = 20;
    private static final int MOST_RULE = 20;
    /** By how much above THE RULE a keeper GOES IN instead of handing on. */
    private static final int TEMPTED = 4;

    private static final int DULL = 0;
    private static final int CURIOUS = 1;
    private static final int COLD = 2;
    private static final int LOVER = 3;
    private static final int BLIND = 4;
    /** From this WANT on the BLIND want no more. */
    private static final int BLIND_FROM = 9;

    private static final int LAST_DAY = 9999;
    private static final int MOST_DAYS = 40;
    private static final int MOST_FORETOLD = 60;
    private static final int MOST_PLANNED = 30;
    private static final int MOST_TOLD = 8;
    private static final int MOST_UNDONE = 8;

    private static final int SHEETS = 4;
    private static final int LANES = 4;
    private static final int MOST_ITEMS = 24;

    /** Far above what Euclid's way needs for any two ints. */
    private static final int MOST_DIVISIONS = 64;

    private static final int MOST_LETTERS = 50;
    private static final int FIRST_FAULT = -20;
    private static final String KIND_LETTERS = "dcolb";

    private final College now = new College();
    /** What is foretold, or read from THE TAPE, is tried on this one, so that the college itself stays. */
    private final College trial = new College();
    private final Past past = new Past();
    private final College imaged = new College();
    private final Past imagedPast = new Past();
    private boolean hasImage = false;
    private final Tape tape = new Tape();
    private final Plan plan = new Plan();
    private final Sheet[] sheets = {new Sheet(), new Sheet(), new Sheet(), new Sheet()};

    /** Promise 1. */
    public YawnKeys() {
    }

    // ---- 1 people, doors

    /** Promise 2. */
    public int person(int kind, int want) {
        if (!within(kind, DULL, BLIND) || !within(want, 0, MOST_WANT)) {
            return BAD;
        }
        if (now.people >= MOST_PEOPLE) {
            return FULL;
        }
        past.forget();
        return now.join(kind, want);
    }

    /** Promise 3. */
    public int rule(int v) {
        if (!within(v, 1, MOST_RULE)) {
            return BAD;
        }
        int was = now.rule;
        now.rule = v;
        return was;
    }

    /** Promise 4. */
    public int wants(int person, int door) {
        if (!now.has(person) || !isDoor(door)) {
            return BAD;
        }
        return now.wantOf(person, door);
    }

    /** Promise 5. */
    public int of(int person, int what) {
        if (!now.has(person)) {
            return BAD;
        }
        switch (what) {
            case 0: return now.kinds[person];
            case 1: return now.keysOf(person);
            case 2: return now.wantsOf(person);
            default: return BAD;
        }
    }

    /** Promise 6. */
    public int at(int door, int what) {
        if (!isDoor(door)) {
            return BAD;
        }
        switch (what) {
            case 0: return now.keepers[door];
            case 1: return now.growth(door);
            case 2: return now.least(door);
            default: return BAD;
        }
    }

    /** Promise 7. */
    public int type(int letter) {
        if (!within(letter, 32, 126)) {
            return BAD;
        }
        if (tape.length >= MOST_LETTERS) {
            return FULL;
        }
        return tape.append(letter);
    }

    /** Promise 8. */
    public int college() {
        int fault = tape.read(trial);
        tape.length = 0;
        if (fault != 0) {
            return fault;
        }
        trial.day = 0;
        trial.gone = 0;
        trial.draw = now.draw;
        now.become(trial);
        past.forget();
        return now.people;
    }

    /** Promise 9. */
    public int count(int what) {
        switch (what) {
            case 0: return now.people;
            case 1: return now.day;
            case 2: return now.rule;
            case 3: return now.gone;
            case 4: return now.nails();
            case 5: return now.wantsOfAll();
            case 6: return now.keepersOfAny();
            case 7: return past.known;
            default: return BAD;
        }
    }

    // ---- what is done

    /** Promise 10. */
    public int days(int n) {
        return live(n, false);
    }

    /** Promise 11. */
    public int talk(int person, int door, int n) {
        if (!now.has(person) || !isDoor(door) || !within(n, 1, MOST_WANT)) {
            return BAD;
        }
        if (now.wantOf(person, door) >= MOST_WANT) {
            return NOT;
        }
        past.remember(now);
        now.wantMore(person, door, n);
        return now.wantOf(person, door);
    }

    /** Promise 12. */
    public int give(int door, int person) {
        if (!isDoor(door) || (person != NONE && !now.has(person))) {
            return BAD;
        }
        int was = now.keepers[door];
        if (was == person) {
            return NOT;
        }
        past.remember(now);
        now.keepers[door] = person;
        return was;
    }

    /** Promise 13. */
    public int drift(int n) {
        return live(n, true);
    }

    /** Promise 14. */
    public int undo() {
        if (past.known == 0) {
            return NONE;
        }
        past.recall(now);
        return past.known;
    }

    /** Promise 15. */
    public int seed(int v) {
        if (v < 0) {
            return BAD;
        }
        int was = now.draw;
        now.draw = v;
        return was;
    }

    // ---- 2 foretold

    /** Promise 16. */
    public int keeper(int door, int n) {
        if (!isDoor(door) || !within(n, 0, MOST_FORETOLD)) {
            return BAD;
        }
        foretell(n);
        return trial.keepers[door];
    }

    /** Promise 17. */
    public int ahead(int person, int door, int n) {
        if (!now.has(person) || !isDoor(door) || !within(n, 0, MOST_FORETOLD)) {
            return BAD;
        }
        foretell(n);
        return trial.wantOf(person, door);
    }

    /** Promise 18. */
    public int then(int n) {
        if (!within(n, 0, MOST_FORETOLD)) {
            return BAD;
        }
        foretell(n);
        return trial.gone;
    }

    /** Promise 19. */
    public int in(int door) {
        if (!isDoor(door)) {
            return BAD;
        }
        trial.become(now);
        return trial.firstGone(door, MOST_FORETOLD);
    }

    /** Promise 20. */
    public int holds(int door) {
        if (!isDoor(door)) {
            return BAD;
        }
        trial.become(now);
        for (int day = 1; day <= MOST_FORETOLD; day++) {
            trial.passDay();
            if (trial.wasGone(door) || trial.keepers[door] != now.keepers[door]) {
                return day;
            }
        }
        return NONE;
    }

    /** Promise 21. */
    public int had(int door, int n) {
        if (!isDoor(door) || !within(n, 0, MOST_FORETOLD)) {
            return BAD;
        }
        trial.become(now);
        int keepers = trial.keeperAsSet(door);
        for (int day = 1; day <= n; day++) {
            trial.passDay();
            keepers |= trial.keeperAsSet(door);
        }
        return keepers;
    }

    /** Promise 22. */
    public int keep(int n, int door) {
        if (!within(n, 1, MOST_PLANNED) || !within(door, -2, DOORS - 1)) {
            return BAD;
        }
        if (now.people == 0) {
            return NONE;
        }
        plan.seek(now, trial, n);
        switch (door) {
            case -1: return plan.gone;
            case -2: return plan.given;
            default: return plan.keepers[door];
        }
    }

    /** Promise 23. */
    public int tempt(int door, int n) {
        if (!isDoor(door) || !within(n, 1, MOST_PLANNED)) {
            return BAD;
        }
        int keeper = now.keepers[door];
        if (keeper == NONE) {
            return NONE;
        }
        for (int more = 0; more <= MOST_WANT; more++) {
            trial.become(now);
            trial.wantMore(keeper, door, more);
            if (trial.firstGone(door, n) != NONE) {
                return more;
            }
        }
        return NONE;
    }

    /** Promise 24. */
    public int strict(int n) {
        if (!within(n, 1, MOST_PLANNED)) {
            return BAD;
        }
        for (int rule = MOST_RULE; rule >= 1; rule--) {
            trial.become(now);
            trial.rule = rule;
            trial.passDays(n);
            if (trial.gone == now.gone) {
                return rule;
            }
        }
        return NONE;
    }

    /** Promise 25: it is so when none of those who do WANT it tells the other way round. */
    public int yawn(int door, int c, int what) {
        if (!isDoor(door) || !within(c, 0, 10) || !within(what, 0, 1)) {
            return BAD;
        }
        int above = 1;
        int below = 1;
        for (int person = 0; person < now.people; person++) {
            if (now.wantOf(person, door) >= now.rule) {
                above *= 10 - c;
                below *= 10;
            }
        }
        int common = commonDivisor(above, below);
        return (what == 0 ? above : below) / common;
    }

    /** Promise 26. */
    public int image() {
        imaged.become(now);
        imagedPast.become(past);
        hasImage = true;
        return 1;
    }

    /** Promise 27. */
    public int restore() {
        if (!hasImage) {
            return NONE;
        }
        now.become(imaged);
        past.become(imagedPast);
        return 1;
    }

    // ---- 3 sheets

    /** Promise 28. */
    public int told(int person, int door, int sheet, int lane, int i, int n, int what) {
        if (!now.has(person) || !isDoor(door) || !isSheet(sheet) || !isLane(lane)
                || !within(n, 1, MOST_TOLD) || !within(what, 0, 2)) {
            return BAD;
        }
        int refusal = sheets[sheet].refusal(lane, i, n);
        if (refusal != 0) {
            return refusal;
        }
        int first = what == 2 ? 1 : 0;
        int last = what == 0 ? BLIND : MOST_WANT;
        int fitting = 0;
        for (int v = first; v <= last; v++) {
            suppose(person, door, what, v);
            if (sheets[sheet].tells(trial, person, door, i, n)) {
                fitting |= 1 << v;
            }
        }
        return fitting;
    }

    /** Promise 29. */
    public int film(int person, int door, int n, int sheet, int lane, int i) {
        if (!now.has(person) || !isDoor(door) || !isSheet(sheet) || !isLane(lane)
                || !within(n, 1, MOST_ITEMS)) {
            return BAD;
        }
        int refusal = sheets[sheet].refusal(lane, i, n);
        if (refusal != 0) {
            return refusal;
        }
        trial.become(now);
        for (int day = 0; day < n; day++) {
            trial.passDay();
            sheets[sheet].put(i + day, trial.wantOf(person, door));
        }
        return n;
    }

    /** Promise 30. */
    public int sheet(int sheet, int lane, int n) {
        if (!isSheet(sheet) || !isLane(lane) || n > MOST_ITEMS) {
            return BAD;
        }
        if (n < 0) {
            return SIZE;
        }
        sheets[sheet].renew(lane, n);
        return n;
    }

    /** Promise 31. */
    public int drop(int sheet) {
        if (!isSheet(sheet)) {
            return BAD;
        }
        if (sheets[sheet].isMissing()) {
            return NULL;
        }
        return sheets[sheet].empty();
    }

    /** Promise 32. */
    public int item(int sheet, int lane, int i, long v) {
        if (!isSheet(sheet) || !isLane(lane)) {
            return BAD;
        }
        int refusal = sheets[sheet].refusal(lane, i, 1);
        if (refusal != 0) {
            return refusal;
        }
        sheets[sheet].put(i, v);
        return 1;
    }

    /** Promise 33. */
    public int copy(int from, int i, int to, int j, int n) {
        if (!isSheet(from) || !isSheet(to)) {
            return BAD;
        }
        Sheet source = sheets[from];
        Sheet target = sheets[to];
        if (source.isMissing() || target.isMissing()) {
            return NULL;
        }
        if (source.lane != target.lane) {
            return CAST;
        }
        if (!source.spans(i, n) || !target.spans(j, n)) {
            return INDEX;
        }
        System.arraycopy(source.items, i, target.items, j, n);
        return n;
    }

    // ---- what several calls share

    private static boolean within(int v, int least, int most) {
        return v >= least && v <= most;
    }

    private static boolean isDoor(int door) {
        return within(door, 0, DOORS - 1);
    }

    private static boolean isSheet(int sheet) {
        return within(sheet, 0, SHEETS - 1);
    }

    private static boolean isLane(int lane) {
        return within(lane, 0, LANES - 1);
    }

    /** DAYS that stay, each with what can undo it: how often DOORS were GONE IN in them. */
    private int live(int n, boolean drifting) {
        if (!within(n, 1, MOST_DAYS)) {
            return BAD;
        }
        if (now.day + n > LAST_DAY) {
            return FULL;
        }
        int before = now.gone;
        for (int day = 0; day < n; day++) {
            past.remember(now);
            if (drifting) {
                now.drawTalk();
            }
            now.passDay();
        }
        return now.gone - before;
    }

    private void foretell(int n) {
        trial.become(now);
        trial.passDays(n);
    }

    /** The trial is as now, but for one's KIND (what 0), his WANT of a DOOR (1), or THE RULE (2). */
    private void suppose(int person, int door, int what, int v) {
        trial.become(now);
        switch (what) {
            case 0: trial.kinds[person] = v; break;
            case 1: trial.setWant(person, door, v); break;
            default: trial.rule = v; break;
        }
    }

    /** Of two numbers from 0 on: at least 1, so that it may divide. */
    private static int commonDivisor(int above, int below) {
        int rest = above;
        int divisor = below;
        for (int i = 0; i < MOST_DIVISIONS && rest > 0; i++) {
            int left = divisor % rest;
            divisor = rest;
            rest = left;
        }
        return Math.max(1, divisor);
    }

    /** All that UNDO brings back. */
    private static class Moment {
        final int[] wants = new int[MOST_PEOPLE * DOORS];
        final int[] keepers = {NONE, NONE, NONE, NONE};
        int day = 0;
        int gone = 0;
        int draw = 1;

        final void recall(Moment other) {
            System.arraycopy(other.wants, 0, wants, 0, wants.length);
            System.arraycopy(other.keepers, 0, keepers, 0, DOORS);
            day = other.day;
            gone = other.gone;
            draw = other.draw;
        }
    }

    /** DOORS, PEOPLE, THE RULE, and how a DAY passes. Callers look at persons and doors before they name them. */
    private static final class College extends Moment {
        final int[] kinds = new int[MOST_PEOPLE];
        int people = 0;
        int rule = 8;
        /** The DOORS that were GONE IN in the latest DAY that passed on this very object. */
        private int goneDoors = 0;

        void become(College other) {
            recall(other);
            System.arraycopy(other.kinds, 0, kinds, 0, MOST_PEOPLE);
            people = other.people;
            rule = other.rule;
        }

        boolean has(int person) {
            return within(person, 0, people - 1);
        }

        /** The caller has seen that there is room. */
        int join(int kind, int want) {
            int person = people;
            kinds[person] = kind;
            for (int door = 0; door < DOORS; door++) {
                setWant(person, door, want);
            }
            people = person + 1;
            return person;
        }

        int wantOf(int person, int door) {
            return wants[person * DOORS + door];
        }

        void setWant(int person, int door, int want) {
            wants[person * DOORS + door] = want;
        }

        void wantMore(int person, int door, int more) {
            setWant(person, door, Math.min(MOST_WANT, wantOf(person, door) + more));
        }

        int wantsOf(int person) {
            int sum = 0;
            for (int door = 0; door < DOORS; door++) {
                sum += wantOf(person, door);
            }
            return sum;
        }

        int wantsOfAll() {
            int sum = 0;
            for (int person = 0; person < people; person++) {
                sum += wantsOf(person);
            }
            return sum;
        }

        int keysOf(int person) {
            int keys = 0;
            for (int door = 0; door < DOORS; door++) {
                if (keepers[door] == person) {
                    keys |= 1 << door;
                }
            }
            return keys;
        }

        int nails() {
            return keysOf(NONE);
        }

        int keeperAsSet(int door) {
            return keepers[door] == NONE ? 0 : 1 << keepers[door];
        }

        int keepersOfAny() {
            int set = 0;
            for (int door = 0; door < DOORS; door++) {
                set |= keeperAsSet(door);
            }
            return set;
        }

        /** Who WANTS a DOOR least, of like ones the first; NONE: there is nobody. */
        int least(int door) {
            int found = NONE;
            int lowest = MOST_WANT + 1;
            for (int person = 0; person < people; person++) {
                if (wantOf(person, door) < lowest) {
                    lowest = wantOf(person, door);
                    found = person;
                }
            }
            return found;
        }

        /** How much more its keeper WANTS a DOOR in this DAY, by KIND alone: that WANTS end at 20 is not in it. */
        int growth(int door) {
            int keeper = keepers[door];
            if (keeper == NONE) {
                return 0;
            }
            switch (kinds[keeper]) {
                case CURIOUS: return curiosity(keeper);
                case COLD: return warmth();
                case LOVER: return 2 * curiosity(keeper);
                case BLIND: return wantOf(keeper, door) >= BLIND_FROM ? 0 : warmth();
                default: return 1;
            }
        }

        /** As the DULL do, and 1 for each other key: as much as he has keys. */
        private int curiosity(int keeper) {
            return Integer.bitCount(keysOf(keeper));
        }

        private int warmth() {
            return day % 2 == 0 ? 1 : 0;
        }

        void passDays(int n) {
            for (int i = 0; i < n; i++) {
                passDay();
            }
        }

        void passDay() {
            // No DOOR's growth reads what another one's changes: one by one is as all is ahead of the DAY.
            for (int door = 0; door < DOORS; door++) {
                if (keepers[door] != NONE) {
                    wantMore(keepers[door], door, growth(door));
                }
            }
            goneDoors = 0;
            for (int door = 0; door < DOORS; door++) {
                if (keepers[door] != NONE) {
                    testKeeper(door);
                }
            }
            day++;
        }

        private void testKeeper(int door) {
            int keeper = keepers[door];
            int want = wantOf(keeper, door);
            if (want >= rule + TEMPTED) {
                gone++;
                goneDoors |= 1 << door;
                setWant(keeper, door, 0);
            } else if (want >= rule) {
                keepers[door] = least(door);
            }
        }

        boolean wasGone(int door) {
            return (goneDoors >> door & 1) != 0;
        }

        /** In which of the next n DAYS a DOOR is GONE IN first, as they pass; NONE. */
        int firstGone(int door, int n) {
            for (int i = 1; i <= n; i++) {
                passDay();
                if (wasGone(door)) {
                    return i;
                }
            }
            return NONE;
        }

        /** THE DRAW goes on, and one of PEOPLE, if there are any, is TALKED to by it. */
        void drawTalk() {
            draw = (int) ((draw * 1103515245L + 12345L) & 0x7fffffffL);
            if (people > 0) {
                wantMore(draw / 65536 % people, draw / 256 % DOORS, draw / 1024 % 4);
            }
        }
    }

    /** What may be UNDONE, the latest one last. */
    private static final class Past {
        private final Moment[] moments = new Moment[MOST_UNDONE];
        int known = 0;

        Past() {
            for (int i = 0; i < MOST_UNDONE; i++) {
                moments[i] = new Moment();
            }
        }

        void remember(Moment now) {
            if (known == MOST_UNDONE) {
                loseOldest();
            }
            moments[known].recall(now);
            known++;
        }

        private void loseOldest() {
            Moment oldest = moments[0];
            for (int i = 1; i < MOST_UNDONE; i++) {
                moments[i - 1] = moments[i];
            }
            moments[MOST_UNDONE - 1] = oldest;
            known = MOST_UNDONE - 1;
        }

        /** The caller has seen that one is known. */
        void recall(Moment now) {
            known--;
            now.recall(moments[known]);
        }

        void forget() {
            known = 0;
        }

        void become(Past other) {
            known = other.known;
            for (int i = 0; i < known; i++) {
                moments[i].recall(other.moments[i]);
            }
        }
    }

    /** KEEP: the best way to give all keys that has been found. */
    private static final class Plan {
        final int[] keepers = new int[DOORS];
        int gone = 0;
        int given = 0;

        /** There are PEOPLE. The ways come as who has key 0, then 1, rising: of like ones the first stays. */
        void seek(College now, College trial, int days) {
            gone = DOORS * MOST_PLANNED + 1;
            given = DOORS + 1;
            int ways = now.people * now.people * now.people * now.people;
            int best = 0;
            for (int way = 0; way < ways; way++) {
                trial.become(now);
                spell(way, now.people, trial.keepers);
                if (isBetter(now, trial, days)) {
                    best = way;
                }
            }
            spell(best, now.people, keepers);
        }

        /** A way is a number of four digits, to the base of how many PEOPLE there are, key 0 first. */
        private static void spell(int way, int people, int[] keepers) {
            if (people <= 0) {
                return;
            }
            int rest = way;
            for (int door = DOORS - 1; door >= 0; door--) {
                keepers[door] = rest % people;
                rest = rest / people;
            }
        }

        /** Whether the trial's way beats all before it, which it is measured by from then on. */
        private boolean isBetter(College now, College trial, int days) {
            int otherwise = 0;
            for (int door = 0; door < DOORS; door++) {
                otherwise += trial.keepers[door] == now.keepers[door] ? 0 : 1;
            }
            // None is less often than never: such a way is not worth its DAYS.
            if (gone == 0 && otherwise >= given) {
                return false;
            }
            for (int i = 0; i < days && trial.gone - now.gone <= gone; i++) {
                trial.passDay();
            }
            int often = trial.gone - now.gone;
            if (often > gone || often == gone && otherwise >= given) {
                return false;
            }
            gone = often;
            given = otherwise;
            return true;
        }
    }

    /** THE TAPE, and how a COLLEGE is read from it. */
    private static final class Tape {
        private static final int END = -1;
        private final int[] letters = new int[MOST_LETTERS];
        int length = 0;
        /** Where it is read: in the end, of a FAULT. */
        private int place = 0;

        /** The caller has seen that there is room. */
        int append(int letter) {
            letters[length] = letter;
            length++;
            return length;
        }

        /** THE RULE, PEOPLE and keys come to the college: 0, or a FAULT. */
        int read(College into) {
            place = 0;
            boolean whole = readRule(into) && readPeople(into) && readKeys(into) && nextLetter() == END;
            return whole ? 0 : FIRST_FAULT - place;
        }

        /** The next letter behind blanks, which stays the next one. */
        private int nextLetter() {
            while (place < length && letters[place] == ' ') {
                place++;
            }
            return letterHere();
        }

        private int letterHere() {
            return place < length ? letters[place] : END;
        }

        private static boolean isDigit(int letter) {
            return within(letter, '0', '9');
        }

        private boolean readRule(College into) {
            int number = 0;
            nextLetter();
            int first = place;
            while (place < first + 2 && isDigit(letterHere())) {
                number = number * 10 + letterHere() - '0';
                place++;
            }
            if (!within(number, 1, MOST_RULE)) {
                place = first;
                return false;
            }
            into.rule = number;
            return true;
        }

        private boolean readPeople(College into) {
            into.people = 0;
            for (int person = 0; person < MOST_PEOPLE && nextLetter() == '/'; person++) {
                place++;
                if (!readPerson(into)) {
                    return false;
                }
            }
            return into.people > 0;
        }

        private boolean readPerson(College into) {
            int letter = nextLetter();
            int kind = letter == END ? -1 : KIND_LETTERS.indexOf((char) letter);
            if (kind < 0) {
                return false;
            }
            place++;
            int person = into.join(kind, 0);
            for (int door = 0; door < DOORS; door++) {
                int want = nextLetter() - 'a';
                if (!within(want, 0, MOST_WANT)) {
                    return false;
                }
                into.setWant(person, door, want);
                place++;
            }
            return true;
        }

        private boolean readKeys(College into) {
            if (nextLetter() != ';') {
                return false;
            }
            place++;
            for (int door = 0; door < DOORS; door++) {
                int sign = nextLetter();
                if (sign != '-' && !into.has(sign - '0')) {
                    return false;
                }
                into.keepers[door] = sign == '-' ? NONE : sign - '0';
                place++;
            }
            return true;
        }
    }

    /** Nothing, or a row of a LANE. Items stand here as wide as the widest LANE, cut to their own. */
    private static final class Sheet {
        private static final int MISSING = -1;
        final long[] items = new long[MOST_ITEMS];
        int lane = 0;
        private int size = MISSING;

        boolean isMissing() {
            return size == MISSING;
        }

        /** The caller has seen that n is 0 to 24. */
        void renew(int newLane, int n) {
            lane = newLane;
            size = n;
            for (int i = 0; i < MOST_ITEMS; i++) {
                items[i] = 0;
            }
        }

        int empty() {
            int had = size;
            size = MISSING;
            return had;
        }

        /** Whether there are n items from i on; no sum, which might wrap around. */
        boolean spans(int i, int n) {
            return n >= 0 && i >= 0 && i <= size - n;
        }

        /** What the machine finds where n items from i on are taken as a row of a LANE; 0: nothing. */
        int refusal(int asLane, int i, int n) {
            if (isMissing()) {
                return NULL;
            }
            if (asLane != lane) {
                return CAST;
            }
            return spans(i, n) ? 0 : INDEX;
        }

        void put(int i, long v) {
            switch (lane) {
                case 0: items[i] = (byte) v; break;
                case 1: items[i] = (short) v; break;
                case 2: items[i] = (int) v; break;
                default: items[i] = v; break;
            }
        }

        /** Whether n items from i on are one's WANTS of a DOOR as DAYS pass in the college. */
        boolean tells(College trial, int person, int door, int i, int n) {
            for (int day = 0; day < n; day++) {
                trial.passDay();
                if (items[i + day] != trial.wantOf(person, door)) {
                    return false;
                }
            }
            return true;
        }
    }
}
