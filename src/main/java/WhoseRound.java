import java.util.Arrays;

/** Whose round it is: people at a table, an evening of rounds, and who is how far out. */
public final class WhoseRound {
    public static final int BAD = -1, STATE = -2, FULL = -3, NONE = -4;

    // Where -1 may be a true answer, BAD is told by a number that none can be.
    private static final int BAD_PENCE = -1000000;

    private static final int SEATS = 8;
    private static final int MINUTES = 240;
    private static final int MOST_ROUNDS = 40;
    private static final int BOOK_ROUNDS = 12;
    private static final int BEST_ROUNDS = 6;
    private static final int TAPE_BYTES = 320;
    private static final int SHEETS = 4;
    private static final int CELLS = 40;
    private static final int IMAGES = 2;
    private static final int MOST_FRIDAYS = 60;
    private static final int MOST_THOUGHT = 9999;

    // What is told of a ONE, by the numbers of one() and set().
    private static final int COMES = 0, GOES = 1, PRICE = 2, LASTS = 3;
    private static final int PURSE = 4, PART = 5, POOR = 6, CARRIED = 7;
    private static final int FACTS = 8;
    private static final int[] LEAST = {0, 1, 1, 1, 0, 0, 0, -99999};
    private static final int[] MOST = {239, 240, 99, 99, 999, 9, 1, 99999};

    private static final int TURN = 0, OWE = 1, FIRST = 2, LOT = 3, LONGEST = 4, BOOK = 5, OWN = 6;
    private static final int RULES = 7;

    // Kinds of TOKENS.
    private static final int END = 0, NAME = 1, NUMBER = 2, SIGN = 3, NO_TOKEN = 4;

    // FAULTS of a table.
    private static final int STRANGE = 1, MISPLACED = 2, OUT_OF_BOUNDS = 3, TOLD_TWICE = 4, NINTH = 5;

    // FAULTS of a SHEET.
    private static final int NULL = 1, INDEX = 2, CAST = 3, SIZE = 4;

    // More than anybody can be OUT.
    private static final int ENDLESS = 0x7fffffff;

    // 840 is parted evenly by every number of buyers from 1 to 8.
    private static final int SHARES = 840;

    private final Tape tape = new Tape();
    private final TableReader reader = new TableReader(tape);
    private final People people = new People();
    private final Image[] images = new Image[IMAGES];
    private final Sheet[] sheets = new Sheet[SHEETS];
    private final Evening night = new Evening(people);
    private final Plan plan = new Plan(people, night);
    private final Gains gains = new Gains(people, night);
    private final EvenSets evenSets = new EvenSets(people);
    private int sheetFault = 0;

    public WhoseRound() {
        for (int k = 0; k < IMAGES; k++) {
            images[k] = new Image();
        }
        for (int k = 0; k < SHEETS; k++) {
            sheets[k] = new Sheet();
        }
    }

    // ---- the text

    public int feed(long v) {
        return tape.append(v) ? tape.length : FULL;
    }

    public int end(int n) {
        if (n < 0 || n > tape.length) {
            return BAD;
        }
        int had = tape.length;
        tape.cut(n);
        return had;
    }

    public int table() {
        int lines = reader.readLines();
        tape.cut(0);
        if (reader.fault != 0) {
            return -10 - reader.place;
        }
        people.copy(reader.told);
        return lines;
    }

    public int fault() {
        return reader.fault;
    }

    public int one(int p, int what) {
        if (!people.has(p) || !within(what, FACTS)) {
            return BAD_PENCE;
        }
        return people.facts[what][p];
    }

    public int set(int p, int what, int v) {
        if (!people.has(p) || !within(what, FACTS) || !people.mayBecome(p, what, v)) {
            return BAD_PENCE;
        }
        int was = people.facts[what][p];
        people.facts[what][p] = v;
        return was;
    }

    // ---- an evening

    public int evening(int rule, int seed, int what) {
        if (!within(rule, RULES) || !within(what, 7)) {
            return BAD;
        }
        hold(rule, seed);
        switch (what) {
            case 0: return night.many;
            case 1: return night.cost;
            case 2: return night.worst();
            case 3: return night.whoIsWorst();
            case 4: return night.ever;
            case 5: return night.blocked;
            default: return night.seed;
        }
    }

    public int round(int rule, int seed, int i, int what) {
        if (!within(rule, RULES) || !within(what, 5)) {
            return BAD;
        }
        hold(rule, seed);
        if (!within(i, night.many)) {
            return BAD;
        }
        Round round = night.rounds[i];
        switch (what) {
            case 0: return round.minute;
            case 1: return round.buyer;
            case 2: return round.cost;
            case 3: return round.got;
            default: return round.there;
        }
    }

    public int of(int rule, int seed, int p, int what) {
        if (!within(rule, RULES) || !people.has(p) || !within(what, 7)) {
            return BAD_PENCE;
        }
        hold(rule, seed);
        Seat seat = night.seats[p];
        switch (what) {
            case 0: return seat.had;
            case 1: return seat.paid;
            case 2: return seat.glasses;
            case 3: return seat.bought;
            case 4: return seat.out();
            case 5: return Math.abs(seat.out());
            default: return night.left(p);
        }
    }

    public int fairest(int seed, int what) {
        if (!within(what, 4)) {
            return BAD;
        }
        if (people.many == 0) {
            return STATE;
        }
        boolean byWorst = what % 2 == 0;
        int fairestRule = 0;
        int least = ENDLESS;
        for (int rule = 0; rule < RULES; rule++) {
            hold(rule, seed);
            int far = byWorst ? night.worst() : night.ever;
            if (far < least) {
                least = far;
                fairestRule = rule;
            }
        }
        return what < 2 ? fairestRule : least;
    }

    // ---- known beforehand, told

    public int best(int what) {
        int i = what - 10;
        if (what != 0 && what != 1 && (what < 10 || i >= BEST_ROUNDS)) {
            return BAD;
        }
        int rounds = plan.make();
        if (rounds < 0 || what == 1) {
            return rounds;
        }
        if (what == 0) {
            return plan.worst;
        }
        return i < rounds ? plan.best[i] : BAD;
    }

    public int book(int p) {
        if (!people.has(p)) {
            return BAD;
        }
        if (people.told >= BOOK_ROUNDS) {
            return FULL;
        }
        people.tell(p);
        return people.told;
    }

    public int shut() {
        int had = people.told;
        people.told = 0;
        return had;
    }

    public int judge(int rule, int seed, int what) {
        if (!within(rule, RULES) || !within(what, 2)) {
            return BAD;
        }
        hold(rule, seed);
        int both = Math.min(night.many, people.told);
        for (int i = 0; i < both; i++) {
            int buyer = night.rounds[i].buyer;
            if (buyer != people.book[i]) {
                return what == 0 ? i : buyer;
            }
        }
        return NONE;
    }

    public int adopt() {
        int rounds = plan.make();
        if (rounds < 0) {
            return rounds;
        }
        people.told = 0;
        for (int i = 0; i < rounds; i++) {
            people.tell(plan.best[i]);
        }
        return rounds;
    }

    // ---- who gains

    public int late(int p, int rule, int seed, int what) {
        if (!people.has(p) || !within(rule, RULES) || !within(what, 2)) {
            return BAD;
        }
        gains.search(p, COMES, people.facts[GOES][p] - 1, rule, seed);
        return what == 0 ? gains.greatest : gains.by;
    }

    public int slow(int p, int rule, int seed, int what) {
        if (!people.has(p) || !within(rule, RULES) || !within(what, 2)) {
            return BAD;
        }
        gains.search(p, LASTS, MOST[LASTS], rule, seed);
        return what == 0 ? gains.greatest : gains.by;
    }

    public int sure(int seed, int what) {
        if (!within(what, 2)) {
            return BAD;
        }
        if (people.many == 0) {
            return STATE;
        }
        int surest = 0;
        int least = ENDLESS;
        for (int rule = 0; rule < RULES; rule++) {
            int greatest = 0;
            for (int p = 0; p < people.many; p++) {
                gains.search(p, LASTS, MOST[LASTS], rule, seed);
                greatest = Math.max(greatest, gains.greatest);
            }
            if (greatest < least) {
                least = greatest;
                surest = rule;
            }
        }
        return what == 0 ? surest : least;
    }

    // ---- what is right

    public long right(int rule, int seed, int p, int what) {
        if (!within(rule, RULES) || !people.has(p) || !within(what, 2)) {
            return BAD;
        }
        int parts = people.sum(PART);
        if (parts == 0) {
            return STATE;
        }
        hold(rule, seed);
        return lowest((long) night.cost * people.facts[PART][p], parts, what == 0);
    }

    public long lot(int p, int what) {
        if (!people.has(p) || !within(what, 4)) {
            return BAD;
        }
        night.openWithoutPurses();
        night.play();
        if (night.blocked > 0) {
            return NONE;
        }
        boolean numerator = what % 2 == 0;
        if (what < 2) {
            return lowest(meanShares(p), SHARES, numerator);
        }
        return lowest(spreadShares(p), (long) SHARES * SHARES, numerator);
    }

    public int fridays(int rule, int seed, int n, int what) {
        if (!within(rule, RULES) || n < 1 || n > MOST_FRIDAYS || !within(what, 4)) {
            return BAD;
        }
        int worst = 0;
        int worstEver = 0;
        int firstEven = NONE;
        int cost = 0;
        night.open(rule, seed);
        for (int i = 1; i <= n; i++) {
            night.play();
            worst = night.worst();
            worstEver = Math.max(worstEver, worst);
            if (worst == 0 && firstEven == NONE) {
                firstEven = i;
            }
            cost += night.cost;
            night.carryOn();
        }
        switch (what) {
            case 0: return worst;
            case 1: return worstEver;
            case 2: return firstEven;
            default: return cost;
        }
    }

    public int goes(int rule, int seed) {
        if (!within(rule, RULES)) {
            return BAD;
        }
        hold(rule, seed);
        for (int p = 0; p < people.many; p++) {
            people.facts[CARRIED][p] = night.seats[p].out();
        }
        return night.many;
    }

    public int coins(int what) {
        if (!within(what, 2)) {
            return BAD;
        }
        if (people.sum(CARRIED) != 0) {
            return STATE;
        }
        int sets = evenSets.most();
        return what == 0 ? people.many - sets : sets;
    }

    public int think(int p, int v) {
        if (!people.has(p) || v < 0 || v > MOST_THOUGHT) {
            return BAD;
        }
        int was = people.thought[p];
        people.thought[p] = v;
        return was;
    }

    public int thought(int rule, int seed, int what) {
        if (!within(rule, RULES) || !within(what, 3)) {
            return BAD_PENCE;
        }
        hold(rule, seed);
        int sum = 0;
        int so = 0;
        int who = NONE;
        int most = 0;
        for (int p = 0; p < people.many; p++) {
            int tooMuch = people.thought[p] - night.seats[p].paid;
            sum += people.thought[p];
            if (tooMuch == 0) {
                so++;
            }
            if (tooMuch > most) {
                most = tooMuch;
                who = p;
            }
        }
        switch (what) {
            case 0: return sum - night.cost;
            case 1: return so;
            default: return who;
        }
    }

    // ---- images, sheets

    public int keep(int k) {
        if (!within(k, IMAGES)) {
            return BAD;
        }
        int was = images[k].kept ? 1 : 0;
        images[k].people.copy(people);
        images[k].kept = true;
        return was;
    }

    public int back(int k) {
        if (!within(k, IMAGES)) {
            return BAD;
        }
        if (!images[k].kept) {
            return STATE;
        }
        people.copy(images[k].people);
        return people.many;
    }

    public int sheet(int k, int lane, int n) {
        if (!within(k, SHEETS) || !within(lane, 3) || n > CELLS) {
            return BAD;
        }
        if (n < 0) {
            return -10 - SIZE;
        }
        sheets[k].renew(lane, n);
        return 1;
    }

    public int lay(int k, int i, int v) {
        if (!within(k, SHEETS)) {
            return BAD;
        }
        int refused = sheets[k].refusal(sheets[k].lane, i);
        if (refused != 0) {
            return -10 - refused;
        }
        sheets[k].put(i, v);
        return 1;
    }

    public int read(int k, int lane, int f, int n) {
        if (!within(k, SHEETS) || !within(lane, 3) || n < 0 || n > BOOK_ROUNDS) {
            return BAD;
        }
        Sheet sheet = sheets[k];
        int refused = 0;
        int came = 0;
        while (came < n) {
            refused = sheet.refusal(lane, f + came);
            if (refused != 0) {
                break;
            }
            if (!people.has(sheet.cells[f + came])) {
                return -20 - came;
            }
            if (people.told + came >= BOOK_ROUNDS) {
                return FULL;
            }
            came++;
        }
        for (int i = 0; i < came; i++) {
            people.tell(sheet.cells[f + i]);
        }
        sheetFault = refused;
        return came;
    }

    public int torn() {
        return sheetFault;
    }

    public int count(int what) {
        switch (what) {
            case 0: return people.many;
            case 1: return people.sum(POOR);
            case 2: return people.told;
            case 3: return (images[0].kept ? 1 : 0) + (images[1].kept ? 1 : 0);
            case 4: return tape.length;
            case 5: return sheets[0].size < 0 ? NONE : sheets[0].size;
            case 6: return people.begin;
            default: return BAD;
        }
    }

    // ---- what several calls need

    private static boolean within(int number, int bound) {
        return number >= 0 && number < bound;
    }

    /** Whether a ONE is in a set of PEOPLE, told by bits. */
    private static boolean isAmong(int p, int who) {
        return (who >> p & 1) != 0;
    }

    /** Plays one EVENING as it would be if it were the first. */
    private void hold(int rule, int seed) {
        night.open(rule, seed);
        night.play();
    }

    /** What a ONE pays BY LOT in the mean, in parts of a penny by SHARES. */
    private long meanShares(int p) {
        long sum = 0;
        for (int i = 0; i < night.many; i++) {
            sum += shareOf(night.rounds[i], p);
        }
        return sum;
    }

    /** The SPREAD in parts by SHARES times SHARES: no ROUND's lot hangs on another's, so their spreads add up. */
    private long spreadShares(int p) {
        long sum = 0;
        for (int i = 0; i < night.many; i++) {
            long share = shareOf(night.rounds[i], p);
            sum += share * ((long) night.rounds[i].cost * SHARES - share);
        }
        return sum;
    }

    private long shareOf(Round round, int p) {
        int able = people.notPoor(round.there);
        int buyers = Integer.bitCount(able);
        if (buyers == 0 || !isAmong(p, able)) {
            return 0;
        }
        return (long) round.cost * (SHARES / buyers);
    }

    /** The numerator or the denominator of a fraction, not below 0, in lowest terms. */
    private static long lowest(long numerator, long denominator, boolean wantsNumerator) {
        long divisor = commonDivisor(numerator, denominator);
        if (divisor == 0) {
            return 0;
        }
        return (wantsNumerator ? numerator : denominator) / divisor;
    }

    private static long commonDivisor(long a, long b) {
        // Euclid's steps on two longs are never as many as a hundred.
        for (int i = 0; i < 100 && b != 0; i++) {
            long rest = a % b;
            a = b;
            b = rest;
        }
        return a;
    }

    /** All PEOPLE with what is told of them, begin, and the BOOK. */
    private static final class People {
        final int[][] facts = new int[FACTS][SEATS];
        final int[] thought = new int[SEATS];
        final int[] book = new int[BOOK_ROUNDS];
        int many = 0;
        int begin = 1;
        int told = 0;

        boolean has(int p) {
            return p >= 0 && p < many && p < SEATS;
        }

        void clear() {
            many = 0;
            begin = 1;
            told = 0;
        }

        /** Adds a ONE of whom no line tells more as yet; the caller has looked whether there is room. */
        int add() {
            int p = many;
            for (int what = 0; what < FACTS; what++) {
                facts[what][p] = 0;
            }
            facts[PURSE][p] = MOST[PURSE];
            facts[PART][p] = 1;
            thought[p] = 0;
            many++;
            return p;
        }

        void copy(People from) {
            for (int what = 0; what < FACTS; what++) {
                System.arraycopy(from.facts[what], 0, facts[what], 0, SEATS);
            }
            System.arraycopy(from.thought, 0, thought, 0, SEATS);
            System.arraycopy(from.book, 0, book, 0, BOOK_ROUNDS);
            many = from.many;
            begin = from.begin;
            told = from.told;
        }

        boolean mayBecome(int p, int what, int v) {
            if (v < LEAST[what] || v > MOST[what]) {
                return false;
            }
            if (what == COMES) {
                return v < facts[GOES][p];
            }
            return what != GOES || v > facts[COMES][p];
        }

        void tell(int p) {
            if (told < BOOK_ROUNDS) {
                book[told] = p;
                told++;
            }
        }

        int sum(int what) {
            int sum = 0;
            for (int p = 0; p < many; p++) {
                sum += facts[what][p];
            }
            return sum;
        }

        /** Those of a set of PEOPLE (bits) who may be asked to buy. */
        int notPoor(int who) {
            int rich = who;
            for (int p = 0; p < many; p++) {
                if (facts[POOR][p] != 0) {
                    rich &= ~(1 << p);
                }
            }
            return rich;
        }
    }

    private static final class Image {
        final People people = new People();
        boolean kept = false;
    }

    /** THE TAPE, read one TOKEN at a time: a later fault is met only when all ahead of it is taken. */
    private static final class Tape {
        final byte[] bytes = new byte[TAPE_BYTES];
        int length = 0;
        int at = 0;
        int kind = END;
        int place = 0;
        int value = 0;

        void cut(int n) {
            length = n;
        }

        boolean append(long v) {
            if (length > TAPE_BYTES - 8) {
                return false;
            }
            for (int shift = 56; shift >= 0; shift -= 8) {
                bytes[length] = (byte) (v >>> shift);
                length++;
            }
            return true;
        }

        void takeToken() {
            while (at < length && bytes[at] == ' ') {
                at++;
            }
            place = at;
            if (at >= length) {
                kind = END;
            } else if (isLetter(bytes[at])) {
                takeName();
            } else if (isFigure(bytes[at])) {
                takeNumber();
            } else {
                kind = bytes[at] == ';' ? SIGN : NO_TOKEN;
                at++;
            }
        }

        private void takeName() {
            kind = NAME;
            while (at < length && isLetter(bytes[at])) {
                at++;
            }
        }

        private void takeNumber() {
            kind = NUMBER;
            value = 0;
            while (at < length && isFigure(bytes[at])) {
                if (at - place < 3) {
                    value = value * 10 + bytes[at] - '0';
                } else {
                    kind = NO_TOKEN;
                }
                at++;
            }
        }

        private static boolean isLetter(byte sign) {
            return sign >= 'a' && sign <= 'z';
        }

        private static boolean isFigure(byte sign) {
            return sign >= '0' && sign <= '9';
        }

        boolean isName(String word) {
            if (kind != NAME || at - place != word.length()) {
                return false;
            }
            for (int i = 0; i < word.length(); i++) {
                if (bytes[place + i] != word.charAt(i)) {
                    return false;
                }
            }
            return true;
        }
    }

    /** Reads a table off THE TAPE, apart from the PEOPLE that are, since a FAULT leaves these as they are. */
    private static final class TableReader {
        final People told = new People();
        final Tape tape;
        int fault = 0;
        int place = 0;
        boolean begun = false;

        TableReader(Tape tape) {
            this.tape = tape;
        }

        int readLines() {
            told.clear();
            fault = 0;
            begun = false;
            tape.at = 0;
            tape.takeToken();
            int lines = 0;
            // No line is shorter than a byte.
            while (lines < TAPE_BYTES && tape.kind != END && readLine()) {
                lines++;
                tape.takeToken();
            }
            return lines;
        }

        private boolean readLine() {
            if (tape.isName("one")) {
                return readOne() && readWiths(told.many - 1);
            }
            if (tape.isName("begin")) {
                return readBegin();
            }
            return misplaced();
        }

        private boolean readOne() {
            if (told.many >= SEATS) {
                return refuse(NINTH);
            }
            int p = told.add();
            for (int what = COMES; what <= LASTS; what++) {
                int least = what == GOES ? told.facts[COMES][p] + 1 : LEAST[what];
                if (!readNumber(least, MOST[what])) {
                    return false;
                }
                told.facts[what][p] = tape.value;
            }
            return true;
        }

        private boolean readWiths(int p) {
            int seen = 0;
            // Each kind of with stands once at most: the sign or a fault comes long before THE TAPE's end.
            for (int i = 0; i < TAPE_BYTES; i++) {
                tape.takeToken();
                if (tape.kind == SIGN) {
                    return true;
                }
                int what = withFact();
                if (what == NONE) {
                    return misplaced();
                }
                if ((seen >> what & 1) != 0) {
                    return refuse(TOLD_TWICE);
                }
                seen |= 1 << what;
                if (what != POOR && !readNumber(LEAST[what], MOST[what])) {
                    return false;
                }
                told.facts[what][p] = what == POOR ? 1 : tape.value;
            }
            return misplaced();
        }

        private int withFact() {
            if (tape.isName("purse")) {
                return PURSE;
            }
            if (tape.isName("part")) {
                return PART;
            }
            return tape.isName("poor") ? POOR : NONE;
        }

        private boolean readBegin() {
            if (begun) {
                return refuse(TOLD_TWICE);
            }
            begun = true;
            if (!readNumber(1, SEATS)) {
                return false;
            }
            told.begin = tape.value;
            tape.takeToken();
            return tape.kind == SIGN || misplaced();
        }

        private boolean readNumber(int least, int most) {
            tape.takeToken();
            if (tape.kind != NUMBER) {
                return misplaced();
            }
            return tape.value >= least && tape.value <= most || refuse(OUT_OF_BOUNDS);
        }

        private boolean misplaced() {
            return refuse(tape.kind == NO_TOKEN ? STRANGE : MISPLACED);
        }

        private boolean refuse(int what) {
            fault = what;
            place = tape.place;
            return false;
        }
    }

    /** What an EVENING does to a ONE. */
    private static final class Seat {
        int carried = 0;
        int had = 0;
        int paid = 0;
        int glasses = 0;
        int bought = 0;
        int emptySince = 0;
        int glassEnds = 0;
        // The latest ROUND bought, counted from 1 over all EVENINGS; 0: never.
        int latest = 0;

        int out() {
            return paid - had + carried;
        }

        void clear() {
            had = 0;
            paid = 0;
            glasses = 0;
            bought = 0;
        }
    }

    private static final class Round {
        int minute = 0;
        int buyer = NONE;
        int cost = 0;
        int got = 0;
        int there = 0;
    }

    /** An EVENING by a RULE; what goes on from one EVENING to the next stays in it until it is opened anew. */
    private static final class Evening {
        final People people;
        final Seat[] seats = new Seat[SEATS];
        final Round[] rounds = new Round[MOST_ROUNDS];
        int many = 0;
        int cost = 0;
        int ever = 0;
        int blocked = 0;
        int seed = 0;
        private int rule = TURN;
        private boolean purses = true;
        private int lastBuyer = SEATS - 1;
        private int allRounds = 0;
        private int there = 0;
        private int empty = 0;

        Evening(People people) {
            this.people = people;
            for (int p = 0; p < SEATS; p++) {
                seats[p] = new Seat();
            }
            for (int i = 0; i < MOST_ROUNDS; i++) {
                rounds[i] = new Round();
            }
        }

        /** Nobody has bought as yet, and what is CARRIED is as told. */
        void open(int byRule, int withSeed) {
            rule = byRule;
            seed = withSeed;
            purses = true;
            lastBuyer = SEATS - 1;
            allRounds = 0;
            for (int p = 0; p < people.many; p++) {
                seats[p].carried = people.facts[CARRIED][p];
                seats[p].latest = 0;
            }
        }

        /** For what is known beforehand: whoever buys, the ROUNDS are the same if purses are not looked at. */
        void openWithoutPurses() {
            open(TURN, 0);
            purses = false;
        }

        void carryOn() {
            for (int p = 0; p < people.many; p++) {
                seats[p].carried = seats[p].out();
            }
        }

        void play() {
            clear();
            // Nothing changes ahead of this MINUTE, so that nothing need be looked at till then.
            int quiet = 0;
            boolean stuck = false;
            for (int minute = 0; minute < MINUTES; minute++) {
                if (minute >= quiet) {
                    comeAndGo(minute);
                    boolean wanted = wantsRound();
                    boolean bought = wanted && beginRound(minute);
                    stuck = wanted && !bought;
                    quiet = bought ? minute + 1 : nextChange(minute);
                }
                if (stuck) {
                    blocked++;
                }
            }
        }

        private void clear() {
            many = 0;
            cost = 0;
            ever = 0;
            blocked = 0;
            there = 0;
            empty = 0;
            for (int p = 0; p < people.many; p++) {
                seats[p].clear();
            }
        }

        private void comeAndGo(int minute) {
            for (int p = 0; p < people.many; p++) {
                int bit = 1 << p;
                if (people.facts[COMES][p] == minute) {
                    there |= bit;
                    turnEmpty(p, minute);
                } else if (people.facts[GOES][p] == minute) {
                    there &= ~bit;
                    empty &= ~bit;
                } else if (hasGlass(p) && seats[p].glassEnds == minute) {
                    turnEmpty(p, minute);
                }
            }
        }

        private void turnEmpty(int p, int minute) {
            empty |= 1 << p;
            seats[p].emptySince = minute;
        }

        private boolean hasGlass(int p) {
            return isAmong(p, there & ~empty);
        }

        private int nextChange(int minute) {
            int next = MINUTES;
            for (int p = 0; p < people.many; p++) {
                next = sooner(next, people.facts[COMES][p], minute);
                next = sooner(next, people.facts[GOES][p], minute);
                if (hasGlass(p)) {
                    next = sooner(next, seats[p].glassEnds, minute);
                }
            }
            return next;
        }

        private static int sooner(int next, int change, int now) {
            return change > now && change < next ? change : next;
        }

        private boolean wantsRound() {
            if (empty == 0 || many >= MOST_ROUNDS) {
                return false;
            }
            return empty == there || Integer.bitCount(empty) >= people.begin;
        }

        /** Begins a ROUND, if anybody can buy: whether it is one. */
        private boolean beginRound(int minute) {
            int got = rule == OWN ? whoCanPayOwn() : empty;
            int costs = sumOfPrices(got);
            int buyer = rule == OWN ? NONE : buyerOf(costs);
            if (got == 0 || buyer == NONE && rule != OWN) {
                return false;
            }
            note(minute, buyer, costs, got);
            pour(got, minute);
            if (buyer == NONE) {
                payOwn(got);
            } else {
                pay(buyer, costs);
            }
            ever = Math.max(ever, greatestOut());
            return true;
        }

        private int whoCanPayOwn() {
            int who = 0;
            for (int p = 0; p < people.many; p++) {
                if (isAmong(p, empty) && left(p) >= people.facts[PRICE][p]) {
                    who |= 1 << p;
                }
            }
            return who;
        }

        private int sumOfPrices(int who) {
            int sum = 0;
            for (int p = 0; p < people.many; p++) {
                if (isAmong(p, who)) {
                    sum += people.facts[PRICE][p];
                }
            }
            return sum;
        }

        private void note(int minute, int buyer, int costs, int got) {
            if (many >= MOST_ROUNDS) {
                return;
            }
            Round round = rounds[many];
            round.minute = minute;
            round.buyer = buyer;
            round.cost = costs;
            round.got = got;
            round.there = there;
            many++;
            allRounds++;
            cost += costs;
        }

        private void pour(int got, int minute) {
            for (int p = 0; p < people.many; p++) {
                if (isAmong(p, got)) {
                    seats[p].had += people.facts[PRICE][p];
                    seats[p].glasses++;
                    seats[p].glassEnds = minute + people.facts[LASTS][p];
                }
            }
            empty &= ~got;
        }

        private void payOwn(int got) {
            for (int p = 0; p < people.many; p++) {
                if (isAmong(p, got)) {
                    seats[p].paid += people.facts[PRICE][p];
                }
            }
        }

        private void pay(int buyer, int costs) {
            seats[buyer].paid += costs;
            seats[buyer].bought++;
            seats[buyer].latest = allRounds;
            lastBuyer = buyer;
        }

        private int greatestOut() {
            int greatest = 0;
            for (int p = 0; p < people.many; p++) {
                if (isAmong(p, there)) {
                    greatest = Math.max(greatest, Math.abs(seats[p].out()));
                }
            }
            return greatest;
        }

        /** Who BUYS a ROUND that COSTS so much, or NONE. */
        private int buyerOf(int costs) {
            int able = whoCanPay(costs);
            if (able == 0) {
                return NONE;
            }
            switch (rule) {
                case OWE: return leastOut(able);
                case FIRST: return emptyLongest(able);
                case LOT: return drawn(able);
                case LONGEST: return longestAgo(able);
                case BOOK: return asTold(able);
                default: return inTurn(able);
            }
        }

        private int whoCanPay(int costs) {
            int able = people.notPoor(there);
            for (int p = 0; p < people.many; p++) {
                if (purses && left(p) < costs) {
                    able &= ~(1 << p);
                }
            }
            return able;
        }

        private int inTurn(int able) {
            for (int i = 1; i <= SEATS; i++) {
                int p = (lastBuyer + i) % SEATS;
                if (isAmong(p, able)) {
                    return p;
                }
            }
            return NONE;
        }

        private int leastOut(int able) {
            int who = NONE;
            for (int p = 0; p < people.many; p++) {
                if (isAmong(p, able) && (who == NONE || seats[p].out() < seats[who].out())) {
                    who = p;
                }
            }
            return who;
        }

        private int emptyLongest(int able) {
            if ((able & empty) == 0) {
                return numberOf(able, 0);
            }
            int who = NONE;
            for (int p = 0; p < people.many; p++) {
                if (isAmong(p, able & empty) && (who == NONE || seats[p].emptySince < seats[who].emptySince)) {
                    who = p;
                }
            }
            return who;
        }

        private int drawn(int able) {
            int buyers = Integer.bitCount(able);
            if (buyers == 0) {
                return NONE;
            }
            seed = seed * 1103515245 + 12345;
            return numberOf(able, (seed >>> 16 & 0x7fff) % buyers);
        }

        /** Who of them, by numbers, has so many ahead. */
        private int numberOf(int able, int ahead) {
            int passed = 0;
            for (int p = 0; p < SEATS; p++) {
                if (isAmong(p, able)) {
                    if (passed == ahead) {
                        return p;
                    }
                    passed++;
                }
            }
            return NONE;
        }

        private int longestAgo(int able) {
            int who = NONE;
            for (int p = 0; p < people.many; p++) {
                if (isAmong(p, able) && (who == NONE || seats[p].latest < seats[who].latest)) {
                    who = p;
                }
            }
            return who;
        }

        private int asTold(int able) {
            if (many < people.told) {
                int p = people.book[many];
                if (isAmong(p, able)) {
                    return p;
                }
            }
            return inTurn(able);
        }

        int left(int p) {
            return people.facts[PURSE][p] - seats[p].paid;
        }

        int worst() {
            int who = whoIsWorst();
            return who == NONE ? 0 : Math.abs(seats[who].out());
        }

        /** Whose FAR is the WORST: behind one's GOING nothing is HAD or PAID, so FAR is told by the end. */
        int whoIsWorst() {
            int who = NONE;
            for (int p = 0; p < people.many; p++) {
                if (who == NONE || Math.abs(seats[p].out()) > Math.abs(seats[who].out())) {
                    who = p;
                }
            }
            return who;
        }
    }

    /** BEST: the row of buyers, looked for among all rows of an EVENING known beforehand. */
    private static final class Plan {
        final People people;
        final Evening night;
        final int[] best = new int[BEST_ROUNDS];
        int worst = 0;
        private final int[] row = new int[BEST_ROUNDS];
        private final int[] out = new int[SEATS];
        private int rounds = 0;

        Plan(People people, Evening night) {
            this.people = people;
            this.night = night;
        }

        /** How many ROUNDS; STATE, NONE. */
        int make() {
            night.openWithoutPurses();
            night.play();
            if (night.many > BEST_ROUNDS) {
                return STATE;
            }
            if (night.blocked > 0) {
                return NONE;
            }
            rounds = night.many;
            worst = ENDLESS;
            for (int p = 0; p < people.many; p++) {
                out[p] = people.facts[CARRIED][p] - night.seats[p].had;
            }
            search(this, 0, night.cost);
            return rounds;
        }

        /** Tries all buyers of ROUND i and of those behind it, which COST rest in all. */
        private static void search(Plan plan, int i, int rest) {
            if (!plan.mayBeBetter(rest)) {
                return;
            }
            if (i >= plan.rounds || i >= BEST_ROUNDS) {
                plan.take();
                return;
            }
            int able = plan.people.notPoor(plan.night.rounds[i].there);
            int costs = plan.night.rounds[i].cost;
            for (int p = 0; p < SEATS; p++) {
                if (isAmong(p, able)) {
                    plan.row[i] = p;
                    plan.out[p] += costs;
                    search(plan, i + 1, rest - costs);
                    plan.out[p] -= costs;
                }
            }
        }

        /** One's OUT only grows, and by no more than rest: rows that can't be better need not be tried. */
        private boolean mayBeBetter(int rest) {
            for (int p = 0; p < people.many; p++) {
                if (out[p] >= worst || -(out[p] + rest) >= worst) {
                    return false;
                }
            }
            return true;
        }

        private void take() {
            worst = 0;
            for (int p = 0; p < people.many; p++) {
                worst = Math.max(worst, Math.abs(out[p]));
            }
            System.arraycopy(row, 0, best, 0, BEST_ROUNDS);
        }
    }

    /** What one gains by telling otherwise when one COMES, or how long a glass lasts. */
    private static final class Gains {
        final People people;
        final Evening night;
        int greatest = 0;
        int by = 0;

        Gains(People people, Evening night) {
            this.people = people;
            this.night = night;
        }

        /** Tries all that may be told, up to most; what is told stays as it is. */
        void search(int p, int what, int most, int rule, int seed) {
            int asItIs = people.facts[what][p];
            night.open(rule, seed);
            night.play();
            int out = night.seats[p].out();
            greatest = 0;
            by = asItIs;
            for (int v = LEAST[what]; v <= most; v++) {
                people.facts[what][p] = v;
                night.open(rule, seed);
                night.play();
                int gain = out - night.seats[p].out();
                if (gain > greatest) {
                    greatest = gain;
                    by = v;
                }
            }
            people.facts[what][p] = asItIs;
        }
    }

    /** The greatest number of sets into which PEOPLE part so that what is CARRIED in each sums to 0. */
    private static final class EvenSets {
        final People people;
        private final int[] sums = new int[1 << SEATS];
        private final int[] sets = new int[1 << SEATS];

        EvenSets(People people) {
            this.people = people;
        }

        int most() {
            int all = (1 << people.many) - 1;
            for (int who = 1; who <= all; who++) {
                int ahead = 0;
                int sum = 0;
                for (int p = 0; p < people.many; p++) {
                    if (isAmong(p, who)) {
                        int others = who & ~(1 << p);
                        ahead = Math.max(ahead, sets[others]);
                        sum = sums[others] + people.facts[CARRIED][p];
                    }
                }
                sums[who] = sum;
                sets[who] = ahead + (sum == 0 ? 1 : 0);
            }
            return sets[all];
        }
    }

    /** A row of CELLS of a lane, or nothing. */
    private static final class Sheet {
        final int[] cells = new int[CELLS];
        int lane = 0;
        int size = -1;

        void renew(int newLane, int n) {
            lane = newLane;
            size = n;
            Arrays.fill(cells, 0);
        }

        /** What the machine finds at CELL i of a SHEET taken as of a lane: a FAULT, or 0. */
        int refusal(int asLane, int i) {
            if (size < 0) {
                return NULL;
            }
            if (asLane != lane) {
                return CAST;
            }
            return i < 0 || i >= size ? INDEX : 0;
        }

        void put(int i, int v) {
            if (i < 0 || i >= size || i >= CELLS) {
                return;
            }
            switch (lane) {
                case 0: cells[i] = (byte) v; break;
                case 1: cells[i] = (short) v; break;
                default: cells[i] = v; break;
            }
        }
    }
}
