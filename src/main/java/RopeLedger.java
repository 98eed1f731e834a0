import java.util.NoSuchElementException;

/** A ledger of debts that hang as strands of a rope bridge between two cliffs. */
public final class RopeLedger {
    public static final int NONE = -1;

    private static final int NO_WAY = -2;
    private static final int TAPE_ROOM = 700;
    private static final int FED_BYTES = 20;
    private static final int PERSON_ROOM = 6;
    private static final int STRAND_ROOM = 12;
    private static final int TOLD_STRAND_ROOM = 10;
    private static final int CROSSING_ROOM = 8;
    private static final int KNOT_ROOM = 64;
    private static final int LAW_ROOM = 3;
    private static final int SAG_ROOM = 24;
    private static final int UNDO_ROOM = 20;
    private static final int LAST_YEAR = 999;
    private static final int MOST_LOAD = 9999;
    private static final int MOST_SAG = 9999;
    private static final int MOST_OWED = 999;
    private static final int MOST_TOLD_LOAD = 200;
    private static final int MOST_LIFE = 99;
    private static final int DRAWS = 10;

    private final byte[] tape = new byte[TAPE_ROOM];
    private int taped;
    private int faultNumber;
    private int faultPlace = NONE;
    private final Teller teller = new Teller(tape);
    private Tale tale = new Tale();
    private final Bridge first = new Bridge(tale);
    private final Bridge now = new Bridge(tale);
    private final Bridge image = new Bridge(tale);
    private boolean imageKept;
    private final Bridge trial = new Bridge(tale);
    private final Bridge[] saved = new Bridge[UNDO_ROOM];
    private int savedNext;
    private int savedCount;
    private final Sags sags = new Sags();
    private final Weights weights = new Weights();
    private final Pairing pairing = new Pairing();
    private final Payments payments = new Payments();
    private final int[] candidateBears = new int[TOLD_STRAND_ROOM + 1];

    public RopeLedger() {
        for (int i = 0; i < UNDO_ROOM; i++) {
            saved[i] = new Bridge(tale);
        }
    }

    // ---- the text

    public int feed(int a, int b, int c, int d, int e) {
        if (taped + FED_BYTES > TAPE_ROOM) {
            return NONE;
        }
        putNumber(a);
        putNumber(b);
        putNumber(c);
        putNumber(d);
        putNumber(e);
        return taped;
    }

    private void putNumber(int number) {
        for (int shift = 24; shift >= 0 && taped < TAPE_ROOM; shift -= 8) {
            tape[taped] = (byte) (number >> shift);
            taped++;
        }
    }

    public int text(int n) {
        if (n < 0 || n > taped) {
            return NO_WAY;
        }
        taped = 0;
        boolean sound = true;
        teller.begin(n);
        for (int i = 0; i < TAPE_ROOM && sound && teller.hasMore(); i++) {
            sound = teller.tellLine();
        }
        faultNumber = teller.faultNumber;
        faultPlace = teller.faultPlace;
        if (!sound) {
            return NONE;
        }
        takeTold();
        return tale.lines;
    }

    /** The tale that was in use becomes the teller's next sheet, so that no text makes new rows. */
    private void takeTold() {
        Tale used = tale;
        tale = teller.tale;
        teller.tale = used;
        first.become(teller.bridge);
        now.become(first);
        imageKept = false;
        forgetActs();
        sags.clear();
    }

    public int fault(int what) {
        if (what == 0) {
            return faultNumber;
        }
        return what == 1 ? faultPlace : NONE;
    }

    public int named(int letters) {
        return tale.personNamed(letters);
    }

    // ---- what stands now

    public int person(int person, int what) throws IndexOutOfBoundsException, NoSuchElementException {
        if (!isPerson(person)) {
            throw new IndexOutOfBoundsException("no such person");
        }
        switch (what) {
            case 0: return now.purse[person];
            case 1: return tale.weight[person];
            case 2: return tale.side[person];
            case 3: return now.stands[person];
            case 4: return now.owedBetween(person, NONE);
            case 5: return now.owedBetween(NONE, person);
            default: throw new NoSuchElementException("no such what");
        }
    }

    private boolean isPerson(int person) {
        return person >= 0 && person < tale.persons;
    }

    public int strand(int strand, int what) {
        if (!now.isStrand(strand)) {
            return NONE;
        }
        switch (what) {
            case 0: return now.from[strand];
            case 1: return now.to[strand];
            case 2: return now.owed[strand];
            case 3: return now.frayed[strand];
            case 4: return now.due[strand];
            case 5: return now.status[strand];
            case 6: return now.alone(strand, now.twoOf(strand));
            case 7: return now.twin[strand];
            case 8: return now.tied[strand];
            default: return NONE;
        }
    }

    public int crossing(int crossing, int what) {
        if (crossing < 0 || crossing >= tale.crossings) {
            return NONE;
        }
        switch (what) {
            case 0: return tale.goer[crossing];
            case 1: return tale.load[crossing];
            case 2: return tale.when[crossing];
            case 3: return now.outcome[crossing];
            default: return NONE;
        }
    }

    public long law(int what, int strand) {
        if (what < 0 || what >= LAW_ROOM || !now.isThere(strand)) {
            return Laws.ERROR;
        }
        now.measure(strand, now.twoOf(strand));
        return tale.laws.work(what);
    }

    public int bears() {
        return now.bridgeBears();
    }

    public int sag(int load) {
        if (load < 1 || load > MOST_OWED) {
            return NONE;
        }
        return sagOf(load, now.bridgeBears());
    }

    private static int sagOf(int load, int borne) {
        if (borne <= 0) {
            return MOST_SAG;
        }
        return Math.min(MOST_SAG, load * 100 / borne);
    }

    // ---- what is done by call

    public int tie(int from, int to, int owed, int due) {
        if (!isPerson(from) || !isPerson(to) || tale.side[from] == tale.side[to]) {
            return NONE;
        }
        if (owed < 1 || owed > MOST_OWED || due < 0 || due > 99 || now.strands >= STRAND_ROOM) {
            return NONE;
        }
        saveAct();
        now.addStrand(from, to, owed, 0, due);
        return now.strands - 1;
    }

    public boolean forgive(int strand) {
        if (!now.isThere(strand)) {
            return false;
        }
        saveAct();
        now.status[strand] = Bridge.FORGIVEN;
        return true;
    }

    public boolean pay(int strand) {
        if (!now.canPay(strand)) {
            return false;
        }
        saveAct();
        now.payOut(strand);
        return true;
    }

    public boolean twist(int one, int other) {
        if (!now.isThere(one) || !now.isThere(other)) {
            return false;
        }
        boolean alike = one == other;
        if (now.twin[one] == (alike ? NONE : other)) {
            return false;
        }
        saveAct();
        now.untwine(one);
        now.untwine(other);
        if (!alike) {
            now.twine(one, other);
        }
        return true;
    }

    public int cross(int person, int load) {
        if (!isPerson(person) || load < 0 || load > 99) {
            return NONE;
        }
        if (tale.weight[person] + load > now.bridgeBears()) {
            return 0;
        }
        saveAct();
        now.stands[person] = 1 - now.stands[person];
        return 1;
    }

    public int years(int n) {
        if (n < 0 || n > 99 || now.year + n > LAST_YEAR) {
            return NONE;
        }
        for (int i = 0; i < n; i++) {
            now.goYear(NONE);
        }
        if (n > 0) {
            forgetActs();
        }
        return now.year;
    }

    // ---- what could be paid, cut, lent, struck out, twisted

    public int order(int strands, int load, int k) {
        if (strands < 0 || strands >= 1 << now.strands || load < 0 || load > MOST_LOAD || k < 0) {
            return NONE;
        }
        if ((strands & ~now.thereBits()) != 0) {
            return NONE;
        }
        if (k >= Integer.bitCount(strands)) {
            return NO_WAY;
        }
        trial.become(now);
        return payments.search(trial, strands, load) ? payments.chosen[k] : NO_WAY;
    }

    public int drop(int load) {
        if (load < 1 || load > MOST_LOAD) {
            return NONE;
        }
        weights.weigh(now);
        if (weights.without(now, 0) < load) {
            return 0;
        }
        // no strand bears less than nothing, so without all of them it bears least
        return now.plank >= load ? NO_WAY : fewestCuts(load);
    }

    /** Bits rise, so the first of its size that drops the load is the least of that size. */
    private int fewestCuts(int load) {
        int there = now.thereBits();
        int fewest = STRAND_ROOM + 1;
        int found = NO_WAY;
        for (int cut = 1; cut <= there; cut++) {
            boolean better = (cut & ~there) == 0 && Integer.bitCount(cut) < fewest;
            if (better && weights.without(now, cut) < load) {
                fewest = Integer.bitCount(cut);
                found = cut;
            }
        }
        return found;
    }

    public int loan(int load) {
        if (load < 1 || load > MOST_LOAD) {
            return NONE;
        }
        int borne = now.bridgeBears();
        if (borne >= load) {
            return 0;
        }
        for (int owed = 1; owed <= MOST_OWED; owed++) {
            if (borne + now.loanBears(owed) >= load) {
                return owed;
            }
        }
        return NO_WAY;
    }

    public int strike(int one, int other) {
        if (!isPerson(one) || !isPerson(other) || one == other) {
            return NONE;
        }
        return Math.min(now.owedBetween(one, other), now.owedBetween(other, one));
    }

    public int twists(int k) {
        if (k < 0 || k > 5) {
            return NONE;
        }
        weights.weigh(now);
        return weights.untwisted(now) + pairing.gain(weights.single, now.thereBits(), k);
    }

    public int partner(int k, int strand) {
        if (k < 0 || k > 5 || !now.isThere(strand)) {
            return NONE;
        }
        weights.weigh(now);
        pairing.choose(weights.single, now.thereBits(), k);
        return pairing.partners[strand];
    }

    // ---- what will be

    public int life(int strand) {
        if (!now.isStrand(strand)) {
            return NONE;
        }
        trial.become(now);
        int lived = 0;
        for (int i = 0; i < MOST_LIFE && trial.isThere(strand); i++) {
            trial.goYear(NONE);
            lived++;
        }
        return lived;
    }

    public int ahead(int n) {
        if (n < 0 || n > 99) {
            return NONE;
        }
        trial.become(now);
        int refused = NONE;
        for (int i = 0; i < n && refused == NONE; i++) {
            refused = trial.goYear(NONE);
        }
        return refused == NONE ? NO_WAY : refused;
    }

    // ---- what was seen

    public int see(int years, int load, int sag, boolean atLeast) {
        boolean sound = years >= 0 && years <= Sags.MOST_YEARS && load >= 1 && load <= MOST_OWED;
        if (!sound || sag < 0 || sag > MOST_SAG) {
            return NONE;
        }
        return sags.put(years, load, sag, atLeast ? Sags.AT_LEAST : Sags.LESS);
    }

    public int strikes(int seen) {
        if (seen < 0 || seen >= sags.size) {
            return NONE;
        }
        return sags.put(seen, 0, 0, Sags.STRIKING);
    }

    public boolean known(int n) {
        if (n < -1 || n > sags.size) {
            return false;
        }
        sags.knownBy = n;
        return true;
    }

    public int painted() {
        int known = sags.knownBits();
        int bits = 0;
        for (int candidate = 0; candidate <= tale.strands; candidate++) {
            if (makesKnownSo(candidate, known)) {
                bits |= 1 << candidate;
            }
        }
        return bits;
    }

    /** Whether the known sags come from the told bridge with one strand painted (none, if it is behind all). */
    private boolean makesKnownSo(int candidate, int known) {
        trial.become(first);
        trial.paintAlone(candidate, tale.strands);
        int last = sags.lastYearOf(known);
        for (int year = 0; year <= last; year++) {
            if (!sags.agree(trial, year, known)) {
                return false;
            }
            trial.goYear(NONE);
        }
        return true;
    }

    public int tells(int what) {
        if (what < 0 || what > 1) {
            return NONE;
        }
        int known = sags.knownBits();
        int candidates = 0;
        for (int candidate = 0; candidate <= tale.strands && candidate < candidateBears.length; candidate++) {
            if (makesKnownSo(candidate, known)) {
                trial.become(now);
                trial.paintAlone(candidate, tale.strands);
                candidateBears[candidates] = trial.bridgeBears();
                candidates++;
            }
        }
        return candidates == 0 ? NO_WAY : mostTelling(what, candidates);
    }

    private int mostTelling(int what, int candidates) {
        int best = 0;
        int most = 0;
        for (int load = 1; load <= MOST_TOLD_LOAD; load++) {
            int ways = waysOf(load, candidates);
            if (ways > most) {
                most = ways;
                best = load;
            }
        }
        return what == 0 ? best : most;
    }

    private int waysOf(int load, int candidates) {
        int ways = 0;
        for (int i = 0; i < candidates && i < candidateBears.length; i++) {
            boolean fresh = true;
            for (int j = 0; j < i; j++) {
                if (sagOf(load, candidateBears[i]) == sagOf(load, candidateBears[j])) {
                    fresh = false;
                }
            }
            if (fresh) {
                ways++;
            }
        }
        return ways;
    }

    // ---- two cliffs at war

    public int rests(int worth) {
        if (worth < 0 || worth > MOST_LOAD) {
            return NONE;
        }
        return Integer.bitCount(restBits(worth));
    }

    public int rest(int worth, int k) {
        if (worth < 0 || worth > MOST_LOAD || k < 0) {
            return NONE;
        }
        int bits = restBits(worth);
        int passed = 0;
        for (int deeds = 0; deeds < 4; deeds++) {
            if ((bits >> deeds & 1) == 1) {
                if (passed == k) {
                    return deeds / 2 * 10 + deeds % 2;
                }
                passed++;
            }
        }
        return NO_WAY;
    }

    /** Deeds are 0 to 3: what east does times two, and what west does. */
    private int restBits(int worth) {
        weights.weigh(now);
        int bits = 0;
        for (int deeds = 0; deeds < 4; deeds++) {
            boolean eastRests = gains(0, deeds, worth) >= gains(0, deeds ^ 2, worth);
            boolean westRests = gains(1, deeds, worth) >= gains(1, deeds ^ 1, worth);
            if (eastRests && westRests) {
                bits |= 1 << deeds;
            }
        }
        return bits;
    }

    private int gains(int side, int deeds, int worth) {
        boolean eastCuts = deeds / 2 == 1;
        boolean westCuts = deeds % 2 == 1;
        int cut = (eastCuts ? now.strandsOfSide(0) : 0) | (westCuts ? now.strandsOfSide(1) : 0);
        int way = weights.without(now, cut) >= 1 ? worth : 0;
        boolean cuts = side == 0 ? eastCuts : westCuts;
        return cuts ? way + now.owedOn(now.strandsOfSide(side)) : way;
    }

    // ---- years by chance, and tried otherwise

    public int chance(int seed, int n, int bound) {
        if (seed < 0 || n < 1 || n > 30 || bound < 0 || bound > MOST_LOAD) {
            return NONE;
        }
        long drawn = seed;
        int reached = 0;
        for (int i = 0; i < DRAWS; i++) {
            trial.become(now);
            for (int year = 0; year < n; year++) {
                drawn = befall(drawn);
                trial.goYear(NONE);
            }
            if (trial.bridgeBears() >= bound) {
                reached++;
            }
        }
        return reached;
    }

    /** What chance does to the trial ahead of a year; answers where the numbers stand behind it. */
    private long befall(long drawn) {
        long at = drawNext(drawn);
        int number = (int) (at / 65536 % 10);
        if (number == 0) {
            trial.plank += 5;
        }
        if (number == 1 && trial.strands > 0) {
            at = drawNext(at);
            trial.fray((int) (at / 65536 % trial.strands), 30);
        }
        return at;
    }

    private static long drawNext(long drawn) {
        return (drawn * 1103515245L + 12345L) & 0x7fffffffL;
    }

    public int tried(int what, int i, int n) {
        boolean ofStrand = what == Bridge.STRAND_GONE;
        boolean sound = ofStrand ? now.isStrand(i) : i == 0;
        if (!sound || what < 0 || what > Bridge.NO_RENT || n < 0 || n > 50) {
            return NONE;
        }
        trial.become(now);
        if (ofStrand && trial.isThere(i)) {
            trial.status[i] = Bridge.FORGIVEN;
        }
        if (what == Bridge.NONE_PAINTED) {
            trial.paintedBits = 0;
        }
        for (int year = 0; year < n; year++) {
            trial.goYear(what);
        }
        return trial.bridgeBears();
    }

    // ---- undoing and images

    private void saveAct() {
        saved[savedNext].become(now);
        savedNext = (savedNext + 1) % UNDO_ROOM;
        savedCount = Math.min(UNDO_ROOM, savedCount + 1);
    }

    private void forgetActs() {
        savedCount = 0;
    }

    public int undo() {
        if (savedCount == 0) {
            return NONE;
        }
        savedNext = (savedNext + UNDO_ROOM - 1) % UNDO_ROOM;
        now.become(saved[savedNext]);
        savedCount--;
        return savedCount;
    }

    public int keep() {
        image.become(now);
        imageKept = true;
        return now.year;
    }

    public int back() {
        if (!imageKept) {
            return NONE;
        }
        now.become(image);
        forgetActs();
        return now.year;
    }

    public int count(int what) {
        switch (what) {
            case 0: return tale.persons;
            case 1: return now.strands;
            case 2: return now.strandsAs(Bridge.THERE);
            case 3: return now.strandsAs(Bridge.PAID);
            case 4: return now.strandsAs(Bridge.FORGIVEN);
            case 5: return now.strandsAs(Bridge.SNAPPED);
            case 6: return tale.crossings;
            case 7: return now.crossingsAs(Bridge.MADE);
            case 8: return now.crossingsAs(Bridge.REFUSED);
            case 9: return tale.laws.knots;
            case 10: return now.year;
            case 11: return now.owedOn(now.thereBits());
            case 12: return now.plank;
            case 13: return sags.size;
            case 14: return sags.knownSize();
            case 15: return savedCount;
            default: return NONE;
        }
    }

    /** What a text tells for good: persons, crossings and laws. */
    private static final class Tale {
        final int[] name = new int[PERSON_ROOM];
        final int[] side = new int[PERSON_ROOM];
        final int[] weight = new int[PERSON_ROOM];
        int persons;
        final int[] goer = new int[CROSSING_ROOM];
        final int[] load = new int[CROSSING_ROOM];
        final int[] when = new int[CROSSING_ROOM];
        int crossings;
        final Laws laws = new Laws();
        int strands;
        int lines;
        boolean plankTold;
        boolean seedTold;

        Tale() {
            clear();
        }

        void clear() {
            persons = 0;
            crossings = 0;
            laws.clear();
            strands = 0;
            lines = 0;
            plankTold = false;
            seedTold = false;
        }

        int personNamed(int letters) {
            for (int i = 0; i < persons && i < PERSON_ROOM; i++) {
                if (name[i] == letters) {
                    return i;
                }
            }
            return NONE;
        }

        void addPerson(int letters, int ownSide, int heavy) {
            if (persons < PERSON_ROOM) {
                name[persons] = letters;
                side[persons] = ownSide;
                weight[persons] = heavy;
                persons++;
            }
        }

        void addCrossing(int person, int carried, int year) {
            if (crossings < CROSSING_ROOM) {
                goer[crossings] = person;
                load[crossings] = carried;
                when[crossings] = year;
                crossings++;
            }
        }
    }

    /** The laws of a text, as knots in the order in which they are worked out. */
    private static final class Laws {
        static final long ERROR = Long.MIN_VALUE;
        static final long MOST_VALUE = 1000000000000L;
        static final int BEAR = 0;
        static final int FRAY = 1;
        static final int RENT = 2;
        /** Knots below this are numbers; above it stand the kinds of tokens. */
        static final int KINDS = 10000;

        final int[] knot = new int[KNOT_ROOM];
        final int[] start = new int[LAW_ROOM];
        final int[] end = new int[LAW_ROOM];
        final long[] names = new long[7];
        final long[] stack = new long[KNOT_ROOM];
        int knots;
        int length;

        void clear() {
            for (int i = 0; i < LAW_ROOM; i++) {
                start[i] = NONE;
                end[i] = NONE;
            }
            knots = 0;
            length = 0;
        }

        void put(int code) {
            if (length < KNOT_ROOM) {
                knot[length] = code;
                length++;
            }
        }

        /** E of a law by the names as they are set; ERROR if the law isn't told, too. */
        long work(int law) {
            if (law < 0 || law >= LAW_ROOM || start[law] < 0) {
                return ERROR;
            }
            int top = 0;
            for (int i = start[law]; i < end[law] && i < KNOT_ROOM; i++) {
                int kind = knot[i] - KINDS;
                int taken = kind < Tokens.AND ? 0 : kind == Tokens.NOT ? 1 : 2;
                if (top < taken || top - taken >= KNOT_ROOM) {
                    return ERROR;
                }
                top -= taken;
                long value;
                if (taken == 0) {
                    value = plainValue(knot[i]);
                } else if (taken == 1) {
                    value = stack[top] == 0 ? 1 : 0;
                } else {
                    value = joined(kind, stack[top], stack[top + 1]);
                }
                if (value > MOST_VALUE || value < -MOST_VALUE) {
                    return ERROR;
                }
                stack[top] = value;
                top++;
            }
            return top == 1 ? stack[0] : ERROR;
        }

        private long plainValue(int code) {
            if (code < KINDS) {
                return code;
            }
            int which = code - KINDS - Tokens.OWED;
            return which >= 0 && which < names.length ? names[which] : ERROR;
        }

        private static long joined(int kind, long left, long right) {
            switch (kind) {
                case Tokens.AND: return left != 0 && right != 0 ? 1 : 0;
                case Tokens.OR: return left != 0 || right != 0 ? 1 : 0;
                case Tokens.LESS: return left < right ? 1 : 0;
                case Tokens.AT_MOST: return left <= right ? 1 : 0;
                case Tokens.EQUAL: return left == right ? 1 : 0;
                case Tokens.UNLIKE: return left != right ? 1 : 0;
                case Tokens.AT_LEAST: return left >= right ? 1 : 0;
                case Tokens.MORE: return left > right ? 1 : 0;
                case Tokens.PLUS: return left + right;
                case Tokens.MINUS: return left - right;
                case Tokens.BY: return right == 0 ? ERROR : left / right;
                case Tokens.TIMES:
                    // a product may leave what a long holds, so its size is looked at ahead of it
                    long most = left == 0 ? MOST_VALUE : MOST_VALUE / (left < 0 ? -left : left);
                    return right > most || right < -most ? ERROR : left * right;
                default: return ERROR;
            }
        }
    }

    /**
     * All that changes: purses, strands, crossings made, the plank and the year. The numbers of persons and strands
     * that its rows keep were looked at when they were put there, so they are not looked at again.
     */
    private static final class Bridge {
        static final int THERE = 0;
        static final int PAID = 1;
        static final int FORGIVEN = 2;
        static final int SNAPPED = 3;
        static final int TO_COME = 0;
        static final int MADE = 1;
        static final int REFUSED = 2;
        static final int NOTHING_FRAYS = 0;
        static final int NOBODY_PAYS = 1;
        static final int STRAND_GONE = 2;
        static final int NONE_PAINTED = 3;
        static final int NO_RENT = 4;

        Tale tale;
        final int[] purse = new int[PERSON_ROOM];
        final int[] stands = new int[PERSON_ROOM];
        final int[] from = new int[STRAND_ROOM];
        final int[] to = new int[STRAND_ROOM];
        final int[] owed = new int[STRAND_ROOM];
        final int[] frayed = new int[STRAND_ROOM];
        final int[] due = new int[STRAND_ROOM];
        final int[] tied = new int[STRAND_ROOM];
        final int[] status = new int[STRAND_ROOM];
        final int[] twin = new int[STRAND_ROOM];
        final int[] outcome = new int[CROSSING_ROOM];
        int paintedBits;
        int strands;
        int plank;
        int year;

        Bridge(Tale told) {
            clear(told);
        }

        void clear(Tale told) {
            tale = told;
            for (int i = 0; i < CROSSING_ROOM; i++) {
                outcome[i] = TO_COME;
            }
            paintedBits = 0;
            strands = 0;
            plank = 0;
            year = 0;
        }

        void become(Bridge other) {
            tale = other.tale;
            System.arraycopy(other.purse, 0, purse, 0, PERSON_ROOM);
            System.arraycopy(other.stands, 0, stands, 0, PERSON_ROOM);
            System.arraycopy(other.from, 0, from, 0, STRAND_ROOM);
            System.arraycopy(other.to, 0, to, 0, STRAND_ROOM);
            System.arraycopy(other.owed, 0, owed, 0, STRAND_ROOM);
            System.arraycopy(other.frayed, 0, frayed, 0, STRAND_ROOM);
            System.arraycopy(other.due, 0, due, 0, STRAND_ROOM);
            System.arraycopy(other.tied, 0, tied, 0, STRAND_ROOM);
            System.arraycopy(other.status, 0, status, 0, STRAND_ROOM);
            System.arraycopy(other.twin, 0, twin, 0, STRAND_ROOM);
            System.arraycopy(other.outcome, 0, outcome, 0, CROSSING_ROOM);
            paintedBits = other.paintedBits;
            strands = other.strands;
            plank = other.plank;
            year = other.year;
        }

        void addStrand(int ower, int lender, int much, int worn, int dueYear) {
            if (strands < STRAND_ROOM) {
                from[strands] = ower;
                to[strands] = lender;
                owed[strands] = much;
                frayed[strands] = worn;
                due[strands] = dueYear;
                tied[strands] = year;
                status[strands] = THERE;
                twin[strands] = NONE;
                strands++;
            }
        }

        void paintAlone(int candidate, int told) {
            paintedBits = candidate < told ? 1 << candidate : 0;
        }

        boolean isStrand(int i) {
            return i >= 0 && i < strands && i < STRAND_ROOM;
        }

        boolean isThere(int i) {
            return isStrand(i) && status[i] == THERE;
        }

        int thereBits() {
            int bits = 0;
            for (int i = 0; i < strands; i++) {
                if (isThere(i)) {
                    bits |= 1 << i;
                }
            }
            return bits;
        }

        int strandsAs(int wanted) {
            int found = 0;
            for (int i = 0; i < strands && i < STRAND_ROOM; i++) {
                if (status[i] == wanted) {
                    found++;
                }
            }
            return found;
        }

        int crossingsAs(int wanted) {
            int found = 0;
            for (int i = 0; i < tale.crossings && i < CROSSING_ROOM; i++) {
                if (outcome[i] == wanted) {
                    found++;
                }
            }
            return found;
        }

        /** What is owed on strands that are there; NONE as a person stands for anybody. */
        int owedBetween(int ower, int lender) {
            int sum = 0;
            for (int i = 0; i < strands; i++) {
                boolean meant = isThere(i) && (ower == NONE || from[i] == ower) && (lender == NONE || to[i] == lender);
                if (meant) {
                    sum += owed[i];
                }
            }
            return sum;
        }

        int owedOn(int bits) {
            int sum = 0;
            for (int i = 0; i < strands && i < STRAND_ROOM; i++) {
                if ((bits >> i & 1) == 1) {
                    sum += owed[i];
                }
            }
            return sum;
        }

        /** The strands there by which people of a side owe, as bits. */
        int strandsOfSide(int side) {
            int bits = 0;
            for (int i = 0; i < strands; i++) {
                if (isThere(i) && tale.side[from[i]] == side) {
                    bits |= 1 << i;
                }
            }
            return bits;
        }

        // what it bears

        int twoOf(int i) {
            return isThere(twin[i]) ? 1 : 0;
        }

        /** Sets the laws' names for a strand. */
        void measure(int i, int two) {
            setNames(owed[i], frayed[i], year - tied[i], due[i], purse[from[i]], two);
        }

        private void setNames(int much, int worn, int age, int dueYear, int rich, int two) {
            long[] names = tale.laws.names;
            names[0] = much;
            names[1] = worn;
            names[2] = age;
            names[3] = dueYear;
            names[4] = year;
            names[5] = rich;
            names[6] = two;
        }

        /** What a strand bears for itself, with the name two as it is given. */
        int alone(int i, int two) {
            if (!isThere(i) || (paintedBits >> i & 1) == 1) {
                return 0;
            }
            measure(i, two);
            return within(tale.laws.work(Laws.BEAR), 9999, owed[i] - owed[i] * frayed[i] / 100);
        }

        int loanBears(int much) {
            setNames(much, 0, 0, 99, 0, 0);
            return within(tale.laws.work(Laws.BEAR), 9999, much);
        }

        private static int within(long value, int most, int without) {
            if (value == Laws.ERROR) {
                return without;
            }
            return value < 0 ? 0 : value > most ? most : (int) value;
        }

        int bridgeBears() {
            int sum = plank;
            for (int i = 0; i < strands; i++) {
                if (!isThere(i)) {
                    continue;
                }
                int two = twoOf(i);
                if (two == 0) {
                    sum += alone(i, 0);
                } else if (i < twin[i]) {
                    int both = alone(i, 1) + alone(twin[i], 1);
                    sum += both + both / 2;
                }
            }
            return sum;
        }

        // what happens to it

        void untwine(int i) {
            int other = twin[i];
            if (isStrand(other)) {
                twin[other] = NONE;
            }
            twin[i] = NONE;
        }

        void twine(int one, int other) {
            twin[one] = other;
            twin[other] = one;
        }

        boolean canPay(int i) {
            return isThere(i) && purse[from[i]] >= owed[i];
        }

        void payOut(int i) {
            purse[from[i]] -= owed[i];
            purse[to[i]] += owed[i];
            status[i] = PAID;
        }

        void takeBack(int i) {
            purse[from[i]] += owed[i];
            purse[to[i]] -= owed[i];
            status[i] = THERE;
        }

        void fray(int i, int more) {
            if (isThere(i)) {
                frayed[i] += more;
                if (frayed[i] >= 100) {
                    status[i] = SNAPPED;
                }
            }
        }

        /** A year goes by, without what is left out: the first crossing refused in it, or NONE. */
        int goYear(int leftOut) {
            int refused = letCross();
            if (leftOut != NOTHING_FRAYS) {
                frayAll();
            }
            if (leftOut != NO_RENT) {
                growAll();
            }
            if (leftOut != NOBODY_PAYS) {
                payAll();
            }
            year++;
            return refused;
        }

        private int letCross() {
            int refused = NONE;
            for (int i = 0; i < tale.crossings && i < CROSSING_ROOM; i++) {
                if (tale.when[i] != year) {
                    continue;
                }
                int person = tale.goer[i];
                if (tale.weight[person] + tale.load[i] <= bridgeBears()) {
                    outcome[i] = MADE;
                    stands[person] = 1 - stands[person];
                } else {
                    outcome[i] = REFUSED;
                    refused = refused == NONE ? i : refused;
                }
            }
            return refused;
        }

        private void frayAll() {
            for (int i = 0; i < strands; i++) {
                if (isThere(i)) {
                    measure(i, twoOf(i));
                    fray(i, within(tale.laws.work(Laws.FRAY), 99, 2));
                }
            }
        }

        private void growAll() {
            for (int i = 0; i < strands; i++) {
                if (isThere(i)) {
                    measure(i, twoOf(i));
                    owed[i] = Math.min(9999, owed[i] + within(tale.laws.work(Laws.RENT), 99, 0));
                }
            }
        }

        private void payAll() {
            for (int i = 0; i < strands; i++) {
                if (canPay(i) && due[i] <= year) {
                    payOut(i);
                }
            }
        }
    }

    /** What each strand of a bridge bears, weighed once for many ways to cut it. */
    private static final class Weights {
        final int[] single = new int[STRAND_ROOM];
        final int[] inTwist = new int[STRAND_ROOM];

        void weigh(Bridge bridge) {
            for (int i = 0; i < bridge.strands && i < STRAND_ROOM; i++) {
                single[i] = bridge.alone(i, 0);
                inTwist[i] = bridge.twoOf(i) == 1 ? bridge.alone(i, 1) : 0;
            }
        }

        int untwisted(Bridge bridge) {
            int sum = bridge.plank;
            for (int i = 0; i < bridge.strands && i < STRAND_ROOM; i++) {
                sum += single[i];
            }
            return sum;
        }

        int without(Bridge bridge, int cut) {
            int sum = bridge.plank;
            for (int i = 0; i < bridge.strands && i < STRAND_ROOM; i++) {
                if (!stays(bridge, i, cut)) {
                    continue;
                }
                int other = bridge.twin[i];
                if (!stays(bridge, other, cut)) {
                    sum += single[i];
                } else if (i < other) {
                    int both = inTwist[i] + inTwist[other];
                    sum += both + both / 2;
                }
            }
            return sum;
        }

        private static boolean stays(Bridge bridge, int i, int cut) {
            return bridge.isThere(i) && (cut >> i & 1) == 0;
        }
    }

    /** Which twists bear most. */
    private static final class Pairing {
        final int[] partners = new int[STRAND_ROOM];

        /**
         * What at most k twists among some strands add. Strands of one set can be paired so that at most one
         * pair has an odd sum, so the set of the heaviest adds half of its sum, cut, and none adds more.
         */
        int gain(int[] weight, int strands, int k) {
            int pairs = Math.min(k, Integer.bitCount(strands) / 2);
            int left = strands;
            int sum = 0;
            for (int i = 0; i < 2 * pairs; i++) {
                int heaviest = heaviestOf(weight, left);
                if (heaviest == NONE) {
                    break;
                }
                sum += weight[heaviest];
                left &= ~(1 << heaviest);
            }
            return sum / 2;
        }

        private static int heaviestOf(int[] weight, int strands) {
            int best = NONE;
            for (int i = 0; i < weight.length; i++) {
                if ((strands >> i & 1) == 1 && (best == NONE || weight[i] > weight[best])) {
                    best = i;
                }
            }
            return best;
        }

        /** Strand by strand the first partner by which the most can still be reached. */
        void choose(int[] weight, int strands, int k) {
            int left = strands;
            int twistsLeft = k;
            int wanted = gain(weight, left, k);
            for (int i = 0; i < STRAND_ROOM; i++) {
                if ((left >> i & 1) == 0) {
                    continue;
                }
                left &= ~(1 << i);
                int other = firstPartner(weight, i, left, twistsLeft, wanted);
                partners[i] = other;
                if (other >= 0) {
                    partners[other] = i;
                    left &= ~(1 << other);
                    twistsLeft--;
                    wanted -= (weight[i] + weight[other]) / 2;
                }
            }
        }

        private int firstPartner(int[] weight, int i, int left, int k, int wanted) {
            if (gain(weight, left, k) == wanted) {
                return NO_WAY;
            }
            for (int other = i + 1; other < STRAND_ROOM; other++) {
                boolean free = (left >> other & 1) == 1;
                int more = (weight[i] + weight[other]) / 2;
                if (free && more + gain(weight, left & ~(1 << other), k - 1) == wanted) {
                    return other;
                }
            }
            return NO_WAY;
        }
    }

    /** In which order strands can be paid. */
    private static final class Payments {
        final int[] chosen = new int[STRAND_ROOM];
        /** A bit for each set of strands paid from which the end can't be reached: all depends on the set alone. */
        private final int[] dead = new int[(1 << STRAND_ROOM) / 32];
        private int wanted;
        private int load;

        /** Pays on the bridge that is given, which must be one to try on. */
        boolean search(Bridge bridge, int strands, int least) {
            wanted = strands;
            load = least;
            for (int i = 0; i < dead.length; i++) {
                dead[i] = 0;
            }
            return endBears(bridge) && payRest(bridge, 0, 0);
        }

        /** Looked at first: most loads that can't be kept fail at the end, whatever the order. */
        private boolean endBears(Bridge bridge) {
            for (int i = 0; i < STRAND_ROOM; i++) {
                if ((wanted >> i & 1) == 1) {
                    bridge.payOut(i);
                }
            }
            boolean borne = bridge.bridgeBears() >= load;
            for (int i = 0; i < STRAND_ROOM; i++) {
                if ((wanted >> i & 1) == 1) {
                    bridge.takeBack(i);
                }
            }
            return borne;
        }

        private boolean payRest(Bridge bridge, int paid, int depth) {
            if (paid == wanted) {
                return true;
            }
            for (int i = 0; i < STRAND_ROOM && depth < STRAND_ROOM; i++) {
                int behind = paid | 1 << i;
                boolean open = (wanted >> i & 1) == 1 && behind != paid && !isDead(behind) && bridge.canPay(i);
                if (!open) {
                    continue;
                }
                bridge.payOut(i);
                if (bridge.bridgeBears() >= load && payRest(bridge, behind, depth + 1)) {
                    chosen[depth] = i;
                    return true;
                }
                bridge.takeBack(i);
                markDead(behind);
            }
            return false;
        }

        private boolean isDead(int paid) {
            int row = paid / 32;
            return row < 0 || row >= dead.length || (dead[row] >> paid % 32 & 1) == 1;
        }

        private void markDead(int paid) {
            int row = paid / 32;
            if (row >= 0 && row < dead.length) {
                dead[row] |= 1 << paid % 32;
            }
        }
    }

    /** Sags seen, and strikings of them, in one row. */
    private static final class Sags {
        static final int LESS = 0;
        static final int AT_LEAST = 1;
        static final int STRIKING = 2;
        static final int MOST_YEARS = 50;

        /** Behind how many years; of a striking: which one it strikes. */
        private final int[] when = new int[SAG_ROOM];
        private final int[] load = new int[SAG_ROOM];
        private final int[] much = new int[SAG_ROOM];
        private final int[] kind = new int[SAG_ROOM];
        int size;
        int knownBy = NONE;

        void clear() {
            size = 0;
            knownBy = NONE;
        }

        int put(int years, int carried, int sagged, int sort) {
            if (size >= SAG_ROOM) {
                return NONE;
            }
            when[size] = years;
            load[size] = carried;
            much[size] = sagged;
            kind[size] = sort;
            size++;
            return size - 1;
        }

        int knownSize() {
            return knownBy == NONE ? size : knownBy;
        }

        /** A striking stands behind what it strikes, so from the last one on each is settled when it is asked. */
        int knownBits() {
            int struck = 0;
            int bits = 0;
            for (int i = Math.min(knownSize(), SAG_ROOM) - 1; i >= 0; i--) {
                if ((struck >> i & 1) == 1) {
                    continue;
                }
                if (kind[i] == STRIKING) {
                    struck |= 1 << when[i];
                } else {
                    bits |= 1 << i;
                }
            }
            return bits;
        }

        int lastYearOf(int bits) {
            int last = NONE;
            for (int i = 0; i < size && i < SAG_ROOM; i++) {
                if ((bits >> i & 1) == 1) {
                    last = Math.max(last, when[i]);
                }
            }
            return Math.min(last, MOST_YEARS);
        }

        /** Whether a bridge that has come to a year sags as the ones of these bits tell of that year. */
        boolean agree(Bridge bridge, int year, int bits) {
            for (int i = 0; i < size && i < SAG_ROOM; i++) {
                if ((bits >> i & 1) == 0 || when[i] != year) {
                    continue;
                }
                boolean atLeast = sagOf(load[i], bridge.bridgeBears()) >= much[i];
                if (atLeast != (kind[i] == AT_LEAST)) {
                    return false;
                }
            }
            return true;
        }
    }

    /** The tokens of a text, one after another. */
    private static final class Tokens {
        /** A word's kind is its number in this row. */
        static final String WORDS =
            "person debt twist cross plank seed law east west bear fray rent painted owed frayed age due year rich two and or not ";
        static final int PERSON = 0;
        static final int DEBT = 1;
        static final int TWIST = 2;
        static final int CROSS = 3;
        static final int PLANK = 4;
        static final int SEED = 5;
        static final int LAW = 6;
        static final int EAST = 7;
        static final int WEST = 8;
        static final int BEAR = 9;
        static final int RENT = 11;
        static final int PAINTED = 12;
        static final int OWED = 13;
        static final int TWO = 19;
        static final int AND = 20;
        static final int OR = 21;
        static final int NOT = 22;
        static final int LESS = 23;
        static final int AT_MOST = 24;
        static final int EQUAL = 25;
        static final int UNLIKE = 26;
        static final int AT_LEAST = 27;
        static final int MORE = 28;
        static final int PLUS = 29;
        static final int MINUS = 30;
        static final int TIMES = 31;
        static final int BY = 32;
        static final int OPEN = 33;
        static final int CLOSE = 34;
        static final int SEMICOLON = 35;
        static final int NUMBER = 36;
        static final int NAME = 37;
        static final int END = 38;
        static final int WRONG = 39;
        /** Numbers grow no further than this, which is beyond all that may be said. */
        static final int HUGE = 1000000;

        private final byte[] bytes;
        private int length;
        private int next;
        int place;
        int kind;
        /** The number, or the letters of a name, 5 bits each. */
        int value;

        Tokens(byte[] tape) {
            bytes = tape;
        }

        void begin(int n) {
            length = Math.max(0, Math.min(n, bytes.length));
            next = 0;
            advance();
        }

        void advance() {
            while (next < length && (bytes[next] == 10 || bytes[next] == 32)) {
                next++;
            }
            place = next;
            if (next >= length) {
                kind = END;
            } else if (isLetter(bytes[next])) {
                readWord();
            } else if (isDigit(bytes[next])) {
                readNumber();
            } else {
                readSign();
            }
        }

        private static boolean isLetter(int sign) {
            return sign >= 'a' && sign <= 'z';
        }

        private static boolean isDigit(int sign) {
            return sign >= '0' && sign <= '9';
        }

        private void readWord() {
            value = 0;
            int letters = 0;
            while (next < length && isLetter(bytes[next])) {
                if (letters < 6) {
                    value = value << 5 | bytes[next] - 'a' + 1;
                }
                letters++;
                next++;
            }
            kind = wordKind(letters);
            if (kind == NONE) {
                kind = letters <= 6 ? NAME : WRONG;
            }
            value = letters < 6 ? value << 5 * (6 - letters) : value;
        }

        /** Which word of the row stands at the place, of so many letters; NONE if none does. */
        private int wordKind(int letters) {
            int number = 0;
            int letter = 0;
            boolean alike = true;
            for (int i = 0; i < WORDS.length(); i++) {
                char sign = WORDS.charAt(i);
                if (sign != ' ') {
                    alike = alike && letter < letters && place + letter < length && bytes[place + letter] == sign;
                    letter++;
                } else if (alike && letter == letters) {
                    return number;
                } else {
                    number++;
                    letter = 0;
                    alike = true;
                }
            }
            return NONE;
        }

        private void readNumber() {
            kind = NUMBER;
            value = 0;
            while (next < length && isDigit(bytes[next])) {
                value = Math.min(HUGE, value * 10 + bytes[next] - '0');
                next++;
            }
        }

        private void readSign() {
            int sign = bytes[next];
            next++;
            int behind = next < length ? bytes[next] : 0;
            kind = doubleKind(sign, behind);
            if (kind == WRONG) {
                kind = singleKind(sign);
            } else {
                next++;
            }
        }

        private static int doubleKind(int sign, int behind) {
            if (sign == '<' && behind == '=') {
                return AT_MOST;
            }
            if (sign == '<' && behind == '>') {
                return UNLIKE;
            }
            return sign == '>' && behind == '=' ? AT_LEAST : WRONG;
        }

        private static int singleKind(int sign) {
            switch (sign) {
                case '<': return LESS;
                case '=': return EQUAL;
                case '>': return MORE;
                case '+': return PLUS;
                case '-': return MINUS;
                case '*': return TIMES;
                case '/': return BY;
                case '(': return OPEN;
                case ')': return CLOSE;
                case ';': return SEMICOLON;
                default: return WRONG;
            }
        }
    }

    /** Reads a text into a tale and a bridge, up to its first fault. */
    private static final class Teller {
        static final int MISPLACED = 1;
        static final int TOO_MUCH = 2;
        static final int TOLD_ALREADY = 3;
        static final int NOT_TOLD = 4;
        static final int UNFIT = 5;

        private final Tokens tokens;
        private final LawReader lawReader;
        Tale tale = new Tale();
        final Bridge bridge = new Bridge(tale);
        int faultNumber;
        int faultPlace;
        /** The number or person that was read last. */
        private int read;

        Teller(byte[] tape) {
            tokens = new Tokens(tape);
            lawReader = new LawReader(tokens);
        }

        void begin(int n) {
            faultNumber = 0;
            faultPlace = NONE;
            tale.clear();
            bridge.clear(tale);
            tokens.begin(n);
        }

        boolean hasMore() {
            return tokens.kind != Tokens.END;
        }

        boolean tellLine() {
            boolean sound;
            switch (tokens.kind) {
                case Tokens.PERSON: sound = personLine(); break;
                case Tokens.DEBT: sound = debtLine(); break;
                case Tokens.TWIST: sound = twistLine(); break;
                case Tokens.CROSS: sound = crossLine(); break;
                case Tokens.PLANK: sound = plankLine(); break;
                case Tokens.SEED: sound = seedLine(); break;
                case Tokens.LAW: sound = lawLine(); break;
                default: return fail(MISPLACED);
            }
            tale.lines++;
            return sound && skip(Tokens.SEMICOLON);
        }

        private boolean fail(int number) {
            faultNumber = number;
            faultPlace = tokens.place;
            return false;
        }

        private boolean skip(int kind) {
            if (tokens.kind != kind) {
                return fail(MISPLACED);
            }
            tokens.advance();
            return true;
        }

        /** Goes behind the word of a line, of which there may be so many. */
        private boolean open(int told, int room) {
            if (told >= room) {
                return fail(TOO_MUCH);
            }
            tokens.advance();
            return true;
        }

        private boolean number(int least, int most) {
            if (tokens.kind != Tokens.NUMBER) {
                return fail(MISPLACED);
            }
            if (tokens.value < least || tokens.value > most) {
                return fail(TOO_MUCH);
            }
            read = tokens.value;
            tokens.advance();
            return true;
        }

        private boolean personLine() {
            if (!open(tale.persons, PERSON_ROOM)) {
                return false;
            }
            if (tokens.kind != Tokens.NAME) {
                return fail(MISPLACED);
            }
            if (tale.personNamed(tokens.value) != NONE) {
                return fail(TOLD_ALREADY);
            }
            int letters = tokens.value;
            tokens.advance();
            if (tokens.kind != Tokens.EAST && tokens.kind != Tokens.WEST) {
                return fail(MISPLACED);
            }
            int side = tokens.kind == Tokens.EAST ? 0 : 1;
            tokens.advance();
            if (!number(0, 999)) {
                return false;
            }
            int purse = read;
            if (!number(1, 99)) {
                return false;
            }
            bridge.purse[tale.persons] = purse;
            bridge.stands[tale.persons] = side;
            tale.addPerson(letters, side, read);
            return true;
        }

        private boolean toldPerson() {
            if (tokens.kind != Tokens.NAME) {
                return fail(MISPLACED);
            }
            read = tale.personNamed(tokens.value);
            return read != NONE || fail(NOT_TOLD);
        }

        private boolean debtLine() {
            if (!open(bridge.strands, TOLD_STRAND_ROOM) || !toldPerson()) {
                return false;
            }
            int from = read;
            tokens.advance();
            if (!toldPerson()) {
                return false;
            }
            int to = read;
            if (tale.side[from] == tale.side[to]) {
                return fail(UNFIT);
            }
            tokens.advance();
            if (!number(1, MOST_OWED)) {
                return false;
            }
            int owed = read;
            if (!number(0, 99)) {
                return false;
            }
            int frayed = read;
            if (!number(0, 99)) {
                return false;
            }
            bridge.addStrand(from, to, owed, frayed, read);
            tale.strands = bridge.strands;
            if (tokens.kind == Tokens.PAINTED) {
                bridge.paintedBits |= 1 << bridge.strands - 1;
                tokens.advance();
            }
            return true;
        }

        private boolean twistLine() {
            tokens.advance();
            if (!freeStrand(NONE)) {
                return false;
            }
            int one = read;
            if (!freeStrand(one)) {
                return false;
            }
            bridge.twine(one, read);
            return true;
        }

        private boolean freeStrand(int taken) {
            if (tokens.kind != Tokens.NUMBER) {
                return fail(MISPLACED);
            }
            if (!bridge.isStrand(tokens.value)) {
                return fail(NOT_TOLD);
            }
            if (tokens.value == taken || bridge.twin[tokens.value] != NONE) {
                return fail(UNFIT);
            }
            read = tokens.value;
            tokens.advance();
            return true;
        }

        private boolean crossLine() {
            if (!open(tale.crossings, CROSSING_ROOM) || !toldPerson()) {
                return false;
            }
            int person = read;
            tokens.advance();
            if (!number(0, 99)) {
                return false;
            }
            int load = read;
            if (!number(0, 99)) {
                return false;
            }
            tale.addCrossing(person, load, read);
            return true;
        }

        private boolean plankLine() {
            if (tale.plankTold) {
                return fail(TOLD_ALREADY);
            }
            tale.plankTold = true;
            tokens.advance();
            if (!number(0, 999)) {
                return false;
            }
            bridge.plank = read;
            return true;
        }

        /** No call answers by the seed that a text tells: chance is given its own. */
        private boolean seedLine() {
            if (tale.seedTold) {
                return fail(TOLD_ALREADY);
            }
            tale.seedTold = true;
            tokens.advance();
            return number(0, 99999);
        }

        private boolean lawLine() {
            tokens.advance();
            if (tokens.kind < Tokens.BEAR || tokens.kind > Tokens.RENT) {
                return fail(MISPLACED);
            }
            int law = tokens.kind - Tokens.BEAR;
            if (tale.laws.start[law] != NONE) {
                return fail(TOLD_ALREADY);
            }
            tokens.advance();
            int fault = lawReader.readInto(tale.laws, law);
            return fault == 0 || fail(fault);
        }
    }

    /** Reads one E; operators wait in a row till what binds weaker comes behind them. */
    private static final class LawReader {
        private static final int OPEN_ROOM = 8;
        private static final int WAITING_ROOM = KNOT_ROOM + OPEN_ROOM;
        private static final int NOT_RANK = 3;
        private static final int COMPARISON_RANK = 4;

        private final Tokens tokens;
        private final int[] waiting = new int[WAITING_ROOM];
        private int waits;
        private int opened;
        private boolean wantsPart;
        private boolean mayNegate;
        private Laws laws;

        LawReader(Tokens read) {
            tokens = read;
        }

        /** The fault's number at the token that stands then, or 0 with the token behind E. */
        int readInto(Laws target, int law) {
            laws = target;
            waits = 0;
            opened = 0;
            wantsPart = true;
            mayNegate = true;
            int start = laws.length;
            int fault = 0;
            for (int i = 0; i <= TAPE_ROOM && fault == 0 && !atEnd(); i++) {
                fault = wantsPart ? part() : behindPart();
                if (fault == 0) {
                    tokens.advance();
                }
            }
            if (fault == 0) {
                settle(1);
                laws.start[law] = start;
                laws.end[law] = laws.length;
            }
            return fault;
        }

        private boolean atEnd() {
            return !wantsPart && opened == 0 && tokens.kind == Tokens.SEMICOLON;
        }

        private int part() {
            int kind = tokens.kind;
            if (kind == Tokens.OPEN) {
                return openBracket();
            }
            if (kind == Tokens.NOT && mayNegate) {
                return knotWaits();
            }
            boolean name = kind >= Tokens.OWED && kind <= Tokens.TWO;
            if (kind != Tokens.NUMBER && !name) {
                return Teller.MISPLACED;
            }
            if (!name && tokens.value >= Laws.KINDS || laws.knots >= KNOT_ROOM) {
                return Teller.TOO_MUCH;
            }
            laws.knots++;
            laws.put(name ? Laws.KINDS + kind : tokens.value);
            wantsPart = false;
            return 0;
        }

        private int openBracket() {
            if (opened >= OPEN_ROOM) {
                return Teller.TOO_MUCH;
            }
            opened++;
            pushWaiting(Tokens.OPEN);
            mayNegate = true;
            return 0;
        }

        private int knotWaits() {
            if (laws.knots >= KNOT_ROOM) {
                return Teller.TOO_MUCH;
            }
            laws.knots++;
            pushWaiting(tokens.kind);
            return 0;
        }

        private int behindPart() {
            if (tokens.kind == Tokens.CLOSE && opened > 0) {
                settle(1);
                waits = Math.max(0, waits - 1);
                opened--;
                return 0;
            }
            int rank = rankOf(tokens.kind);
            if (rank == 0 || rank == NOT_RANK) {
                return Teller.MISPLACED;
            }
            settle(rank == COMPARISON_RANK ? rank + 1 : rank);
            if (rank == COMPARISON_RANK && lastRank() == rank) {
                return Teller.MISPLACED;
            }
            wantsPart = true;
            mayNegate = rank < NOT_RANK;
            return knotWaits();
        }

        private void pushWaiting(int kind) {
            if (waits < WAITING_ROOM) {
                waiting[waits] = kind;
                waits++;
            }
        }

        private int lastRank() {
            return waits > 0 && waits <= WAITING_ROOM ? rankOf(waiting[waits - 1]) : 0;
        }

        /** What waits and binds at least so much is worked out now; an open bracket binds nothing. */
        private void settle(int rank) {
            for (int i = 0; i < WAITING_ROOM && lastRank() >= rank; i++) {
                waits--;
                laws.put(Laws.KINDS + waiting[waits]);
            }
        }

        private static int rankOf(int kind) {
            switch (kind) {
                case Tokens.OR: return 1;
                case Tokens.AND: return 2;
                case Tokens.NOT: return NOT_RANK;
                case Tokens.TIMES:
                case Tokens.BY: return 6;
                case Tokens.PLUS:
                case Tokens.MINUS: return 5;
                default: return kind >= Tokens.LESS && kind <= Tokens.MORE ? COMPARISON_RANK : 0;
            }
        }
    }
}
