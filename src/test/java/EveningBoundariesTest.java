import java.math.BigInteger;

/** "2 AN EVENING by a RULE", promises 8 to 11: each sentence that names a boundary, by a test of its own. */
public final class EveningBoundariesTest {
    private static final int MIN = Integer.MIN_VALUE, MAX = Integer.MAX_VALUE;
    private static final int BAD = WhoseRound.BAD, STATE = WhoseRound.STATE, NONE = WhoseRound.NONE;
    private static final int BAD_PENCE = -1000000;
    private static final int TURN = 0, OWE = 1, FIRST = 2, LOT = 3, LONGEST = 4, BOOK = 5, OWN = 6;
    private static final int[] SEEDS = {0, 1, -1, 11, -99, 1103515245, MIN, MIN + 1, MAX, 65535, 65536, -65536};

    private EveningBoundariesTest() {
    }

    public static void main(String[] args) {
        comes();
        goes();
        glassEnds();
        begin();
        allThatAreThere();
        fortyRounds();
        whoHasEnough();
        nobodyCanBuy();
        turn();
        owe();
        first();
        lot();
        lotByNumbers();
        longest();
        bookOfTwelve();
        bookThatCanNot();
        ownEnough();
        ownAny();
        far();
        worstOfSeveral();
        ever();
        eveningOfNobody();
        eveningBad();
        minutesWithout();
        roundBad();
        roundBits();
        ofBad();
        ofOne();
        fairestOfSeveral();
        fairestBad();
        Check.finish();
    }

    /** What no promise alone says is said of an EVENING by a RULE, which promises 8 to 10 tell. */
    private static void due(String call, long got, long want) {
        Check.due(call.startsWith("promise") ? call : "promises 8 to 10: " + call, got, want);
    }

    /** All ROUNDS of an EVENING: each its MINUTE, buyer, COST, who got, who was there. */
    private static void rounds(String call, WhoseRound x, int rule, int[]... want) {
        due(call + ": ROUNDS", x.evening(rule, 0, 0), want.length);
        for (int i = 0; i < want.length; i++) {
            for (int what = 0; what < want[i].length; what++) {
                due(call + ": ROUND " + i + ", " + what, x.round(rule, 0, i, what), want[i][what]);
            }
        }
        due(call + ": no ROUND more", x.round(rule, 0, want.length, 0), BAD);
    }

    private static void rounds(String call, String table, int rule, int[]... want) {
        rounds(call, Check.tableOf(table), rule, want);
    }

    private static void buyers(String call, WhoseRound x, int rule, int seed, int... want) {
        due(call + ": ROUNDS", x.evening(rule, seed, 0), want.length);
        for (int i = 0; i < want.length; i++) {
            due(call + ": who bought ROUND " + i, x.round(rule, seed, i, 1), want[i]);
        }
    }

    private static int[] row(int... numbers) {
        return numbers;
    }

    // ---- MINUTES, ROUNDS

    private static void comes() {
        rounds("there from MINUTE 0 on", "one 0 9 5 99;", TURN, row(0, 0, 5, 1, 1));
        rounds("there from that MINUTE on", "one 7 9 5 99;", TURN, row(7, 0, 5, 1, 1));
        rounds("there in the last MINUTE", "one 239 240 5 1;", TURN, row(239, 0, 5, 1, 1));
        rounds("there for one MINUTE", "one 0 1 5 1;", TURN, row(0, 0, 5, 1, 1));
        rounds("EMPTY from that MINUTE on", "one 0 240 5 99;one 3 9 7 99;", TURN,
            row(0, 0, 5, 1, 1), row(3, 1, 7, 2, 3), row(99, 0, 5, 1, 1), row(198, 0, 5, 1, 1));
    }

    private static void goes() {
        rounds("gone in the MINUTE when EMPTY", "one 0 50 5 50;", TURN, row(0, 0, 5, 1, 1));
        rounds("not gone a MINUTE before", "one 0 51 5 50;", TURN, row(0, 0, 5, 1, 1), row(50, 0, 5, 1, 1));
        rounds("240 is no MINUTE", "one 140 240 5 50;", TURN, row(140, 0, 5, 1, 1), row(190, 0, 5, 1, 1));
        rounds("239 is one", "one 139 240 5 50;", TURN,
            row(139, 0, 5, 1, 1), row(189, 0, 5, 1, 1), row(239, 0, 5, 1, 1));
        rounds("one GOES as another COMES", "one 0 50 5 50;one 50 60 7 99;", TURN,
            row(0, 0, 5, 1, 1), row(50, 1, 7, 2, 2));
        rounds("who is gone is not EMPTY", "one 0 60 5 50;one 0 240 6 70;one 0 240 7 70;begin 2;", TURN,
            row(0, 0, 18, 7, 7), row(70, 1, 13, 6, 6), row(140, 2, 13, 6, 6), row(210, 1, 13, 6, 6));
        rounds("who is gone buys nothing", "one 0 50 5 50;one 0 101 6 50;", LONGEST,
            row(0, 0, 11, 3, 3), row(50, 1, 6, 2, 2), row(100, 1, 6, 2, 2));
    }

    private static void glassEnds() {
        rounds("a glass of 1 MINUTE", "one 0 3 5 1;", TURN, row(0, 0, 5, 1, 1), row(1, 0, 5, 1, 1), row(2, 0, 5, 1, 1));
        rounds("a glass of 99", "one 0 240 5 99;", TURN, row(0, 0, 5, 1, 1), row(99, 0, 5, 1, 1), row(198, 0, 5, 1, 1));
        rounds("EMPTY from then on", "one 0 121 5 30;one 0 121 7 50;begin 2;", TURN,
            row(0, 0, 12, 3, 3), row(50, 1, 12, 3, 3), row(100, 0, 12, 3, 3));
        rounds("got when the ROUND was, not when it ended", "one 0 130 5 30;one 20 130 7 60;begin 2;", TURN,
            row(0, 0, 5, 1, 1), row(30, 1, 12, 3, 3), row(90, 0, 12, 3, 3));
    }

    private static void begin() {
        String three = "one 0 60 1 20;one 0 60 2 30;one 0 60 4 59;";
        rounds("begin 1", three + "begin 1;", TURN,
            row(0, 0, 7, 7, 7), row(20, 1, 1, 1, 7), row(30, 2, 2, 2, 7), row(40, 0, 1, 1, 7), row(59, 1, 4, 4, 7));
        rounds("begin 2: as many as it tells", three + "begin 2;", TURN,
            row(0, 0, 7, 7, 7), row(30, 1, 3, 3, 7), row(59, 2, 5, 5, 7));
        rounds("begin 3", three + "begin 3;", TURN, row(0, 0, 7, 7, 7), row(59, 1, 7, 7, 7));
        rounds("begin 8: all that are there", three + "begin 8;", TURN, row(0, 0, 7, 7, 7), row(59, 1, 7, 7, 7));
        rounds("more than begin tells", "one 0 9 1 9;one 0 9 1 9;one 0 9 1 9;begin 2;", TURN, row(0, 0, 3, 7, 7));
        String seven = "one 0 9 1 1;".repeat(7) + "one 0 9 1 9;";
        WhoseRound x = Check.tableOf(seven + "begin 8;");
        due("begin 8 of 8", x.evening(TURN, 0, 0), 1);
        Check.write(x, seven + "begin 7;");
        x.table();
        due("begin 7 of 8", x.evening(TURN, 0, 0), 9);
    }

    private static void allThatAreThere() {
        rounds("all that are there, begin 2", "one 5 9 5 9;begin 2;", TURN, row(5, 0, 5, 1, 1));
        rounds("all that are left", "one 0 50 5 99;one 0 60 7 20;begin 2;", TURN,
            row(0, 0, 12, 3, 3), row(50, 1, 7, 2, 2));
        WhoseRound away = Check.tableOf("one 100 110 5 99;");
        due("one at least: nobody there is no ROUND", away.evening(TURN, 0, 0), 1);
        due("one at least: and no MINUTE without one", away.evening(TURN, 0, 5), 0);
        due("nobody at all: no ROUND", new WhoseRound().evening(TURN, 0, 0), 0);
    }

    private static void fortyRounds() {
        for (int n = 38; n <= 42; n++) {
            WhoseRound x = Check.tableOf("one 0 " + n + " 3 1;");
            int most = Math.min(n, 40);
            due("40 ROUNDS at most, of " + n, x.evening(TURN, 0, 0), most);
            due("40 ROUNDS at most, COST", x.evening(TURN, 0, 1), 3 * most);
            due("40 ROUNDS at most, glasses", x.of(TURN, 0, 0, 2), most);
            due("40 ROUNDS at most, the last", x.round(TURN, 0, most - 1, 0), most - 1);
            due("40 ROUNDS at most, none more", x.round(TURN, 0, most, 0), BAD);
            due("40 ROUNDS at most, no MINUTE more is counted", x.evening(TURN, 0, 5), 0);
            due("40 ROUNDS at most, by OWN", x.evening(OWN, 0, 0), most);
        }
        WhoseRound x = Check.tableOf("one 0 240 1 1;one 0 240 1 1;");
        due("40 ROUNDS, in an EVENING", x.evening(LOT, 0, 0), 40);
        due("40 ROUNDS, as many again in the next", x.fridays(TURN, 0, 2, 3), 160);
    }

    private static void whoHasEnough() {
        WhoseRound x = Check.tableOf("one 0 9 5 9 purse 12;one 0 9 7 9 purse 0;");
        due("as much as it COSTS is enough", x.evening(TURN, 0, 0), 1);
        due("as much as it COSTS: 0 is left", x.of(TURN, 0, 0, 6), 0);
        x.set(0, 4, 11);
        due("a penny less is not", x.evening(TURN, 0, 0), 0);
        x.set(1, 4, 12);
        buyers("another one then", x, TURN, 0, 1);
        WhoseRound left = Check.tableOf("one 0 30 5 10 purse 14;");
        due("what is left in it", left.evening(TURN, 0, 0), 2);
        due("what is left at the end", left.of(TURN, 0, 0, 6), 4);
        left.set(0, 4, 15);
        due("what is left is just enough", left.evening(TURN, 0, 0), 3);
        WhoseRound most = Check.tableOf("one 0 2 99 99;".repeat(8));
        due("eight times 99 is less than 999", most.evening(TURN, 0, 1), 792);
        most.set(0, 4, 792);
        buyers("792 is enough", most, TURN, 0, 0);
        most.set(0, 4, 791);
        buyers("791 is not", most, TURN, 0, 1);
    }

    private static void nobodyCanBuy() {
        WhoseRound x = Check.tableOf("one 0 240 5 99 poor;one 9 240 7 99 purse 12;");
        rounds("no ROUND in those MINUTES, EMPTY still", x, TURN, row(9, 1, 12, 3, 3));
        due("9 MINUTES, and those from 108 on", x.evening(TURN, 0, 5), 9 + 132);
        x.set(1, 4, 11);
        rounds("nobody by a penny", x, TURN);
        due("all MINUTES", x.evening(TURN, 0, 5), 240);
        x.set(0, 6, 0);
        rounds("by TURN, a MINUTE without one is no ROUND", x, TURN,
            row(0, 0, 5, 1, 1), row(9, 1, 7, 2, 3), row(99, 0, 5, 1, 3), row(108, 0, 7, 2, 3),
            row(198, 0, 5, 1, 3), row(207, 0, 7, 2, 3));
    }

    // ---- RULES

    private static void turn() {
        WhoseRound x = Check.tableOf("one 0 240 1 24;".repeat(8));
        buyers("TURN: at first behind 7, then round", x, TURN, 0, 0, 1, 2, 3, 4, 5, 6, 7, 0, 1);
        x.set(0, 6, 1);
        x.set(3, 4, 0);
        x.set(7, 1, 120);
        buyers("TURN: the next one who can", x, TURN, 0, 1, 2, 4, 5, 6, 1, 2, 4, 5, 6);
        WhoseRound alone = Check.tableOf("one 0 100 1 40 poor;one 0 100 1 40;");
        buyers("TURN: the same one again", alone, TURN, 0, 1, 1, 1);
        WhoseRound last = Check.tableOf("one 0 1 1 9 poor;".repeat(7) + "one 0 100 1 40;");
        buyers("TURN: 7, and behind it 7", last, TURN, 0, 7, 7, 7);
    }

    private static void owe() {
        WhoseRound x = Check.tableOf("one 0 120 5 40;one 0 120 5 40;one 0 120 5 40;begin 3;");
        buyers("OWE: of several the least number", x, OWE, 0, 0, 1, 2);
        x.set(2, 7, -1);
        buyers("OWE: by a penny", x, OWE, 0, 2, 0, 1);
        x.set(0, 7, -1);
        buyers("OWE: of two by a penny", x, OWE, 0, 0, 2, 1);
        x.set(0, 7, -99999);
        buyers("OWE: far", x, OWE, 0, 0, 0, 0);
        x.set(0, 4, 29);
        buyers("OWE: as long as one can", x, OWE, 0, 0, 2, 1);
        x.set(2, 7, 99999);
        buyers("OWE: ahead by far", x, OWE, 0, 0, 1, 1);
        WhoseRound two = Check.tableOf("one 0 240 5 60;one 0 240 7 60;begin 2;");
        buyers("OWE: ahead of the glasses of that ROUND", two, OWE, 0, 0, 1, 1, 0);
    }

    private static void first() {
        WhoseRound x = Check.tableOf("one 0 121 5 60;one 0 121 5 40;one 0 121 5 50;begin 3;");
        buyers("FIRST: as long, the least number; then who was EMPTY first", x, FIRST, 0, 0, 1, 1);
        x.set(2, 3, 40);
        buyers("FIRST: of several the least number", x, FIRST, 0, 0, 1, 1);
        x.set(2, 3, 39);
        buyers("FIRST: by a MINUTE", x, FIRST, 0, 0, 2, 2);
        x.set(2, 6, 1);
        buyers("FIRST: of those who can", x, FIRST, 0, 0, 1, 1);
        WhoseRound never = Check.tableOf("one 0 60 5 99;one 0 60 5 99;one 0 60 5 50;");
        buyers("FIRST: who is not EMPTY never", never, FIRST, 0, 0, 2);
        never.set(2, 6, 1);
        buyers("FIRST: but if nobody else is, the least number", never, FIRST, 0, 0, 0);
        never.set(0, 6, 1);
        buyers("FIRST: the least number who can", never, FIRST, 0, 1, 1);
        WhoseRound coming = Check.tableOf("one 5 60 5 99;one 3 60 5 99;one 0 60 5 99;begin 2;");
        buyers("FIRST: EMPTY since one COMES", coming, FIRST, 0, 2, 1);
        coming.set(0, 0, 3);
        buyers("FIRST: as long, the least number", coming, FIRST, 0, 2, 0);
    }

    /** The seed behind one lot, figured out without an int's bounds and cut then. */
    private static int next(int seed) {
        BigInteger v = BigInteger.valueOf(seed).multiply(BigInteger.valueOf(1103515245)).add(BigInteger.valueOf(12345));
        return v.intValue();
    }

    private static int bits16To30(int seed) {
        return seed < 0 ? (seed - MIN) / 65536 : seed / 65536;
    }

    private static void lot() {
        for (int people : new int[] {1, 2, 3, 5, 7, 8}) {
            WhoseRound x = Check.tableOf("one 0 240 1 60;".repeat(people));
            for (int seed : SEEDS) {
                int then = seed;
                for (int i = 0; i < 4; i++) {
                    then = next(then);
                    due("LOT of " + people + " by seed " + seed, x.round(LOT, seed, i, 1), bits16To30(then) % people);
                }
                due("LOT: the seed then, an int", x.evening(LOT, seed, 6), then);
            }
        }
        due("LOT: of 0, the seed is 12345 then", Check.tableOf("one 0 1 1 1;").evening(LOT, 0, 6), 12345);
        due("LOT: no lot of nobody", Check.tableOf("one 0 9 1 1 poor;").evening(LOT, 7, 6), 7);
    }

    private static void lotByNumbers() {
        WhoseRound x = Check.tableOf("one 0 1 1 1 poor;one 0 1 1 1;one 0 1 1 1 purse 3;one 0 1 1 1;one 5 6 1 1;");
        for (int seed : SEEDS) {
            int then = next(seed);
            int who = bits16To30(then) % 2 == 0 ? 1 : 3;
            due("LOT: by numbers of those who can", x.round(LOT, seed, 0, 1), who);
            due("LOT: of one alone", x.round(LOT, seed, 1, 1), 4);
            due("LOT: the seed goes on once a ROUND", x.evening(LOT, seed, 6), next(then));
        }
        WhoseRound glass = Check.tableOf("one 0 20 1 99;one 0 20 1 99;one 0 20 1 15;");
        for (int seed : SEEDS) {
            int then = next(next(seed));
            due("LOT: also of who is not EMPTY", glass.round(LOT, seed, 1, 1), bits16To30(then) % 3);
        }
    }

    private static void longest() {
        WhoseRound x = Check.tableOf("one 0 240 5 40;one 60 240 5 40;one 0 240 5 40;begin 3;");
        buyers("LONGEST: never is longest, of several the least number", x, LONGEST, 0, 0, 2, 1, 0, 2, 1);
        x.set(1, 0, 200);
        buyers("LONGEST: never, even late", x, LONGEST, 0, 0, 2, 0, 2, 0, 1);
        WhoseRound first = Check.tableOf("one 0 120 5 40;one 0 120 5 40;");
        buyers("LONGEST: MINUTE 0 is not never", first, LONGEST, 0, 0, 1, 0);
    }

    private static void bookOfTwelve() {
        WhoseRound x = Check.tableOf("one 0 240 1 17;one 0 240 1 17;one 0 240 1 17;");
        for (int i = 0; i < 12; i++) {
            x.book(2);
        }
        buyers("BOOK: 12 told, TURN behind the last", x, BOOK, 0, 2, 2, 2, 2, 2, 2, 2, 2, 2, 2, 2, 2, 0, 1, 2);
        x.shut();
        buyers("BOOK: nobody told, TURN", x, BOOK, 0, 0, 1, 2, 0, 1, 2, 0, 1, 2, 0, 1, 2, 0, 1, 2);
        x.book(1);
        x.book(1);
        x.book(0);
        buyers("BOOK: by order", x, BOOK, 0, 1, 1, 0, 1, 2, 0, 1, 2, 0, 1, 2, 0, 1, 2, 0);
    }

    private static void bookThatCanNot() {
        WhoseRound x = Check.tableOf("one 0 240 5 60;one 0 240 5 60;one 0 240 5 60;begin 3;");
        for (int i = 0; i < 4; i++) {
            x.book(2);
        }
        buyers("BOOK: that one can", x, BOOK, 0, 2, 2, 2, 2);
        x.set(2, 4, 30);
        buyers("BOOK: as long as one has enough, TURN then", x, BOOK, 0, 2, 2, 0, 1);
        x.set(2, 4, 29);
        buyers("BOOK: a penny less", x, BOOK, 0, 2, 0, 1, 0);
        x.set(2, 4, 999);
        x.set(2, 1, 120);
        buyers("BOOK: gone, by TURN", x, BOOK, 0, 2, 2, 0, 1);
        x.set(2, 1, 240);
        x.set(2, 6, 1);
        buyers("BOOK: a poor one is never asked, by TURN", x, BOOK, 0, 0, 1, 0, 1);
        WhoseRound late = Check.tableOf("one 0 240 5 99 poor;one 9 240 5 99;one 9 240 5 99;");
        late.book(2);
        buyers("BOOK: by ROUNDS, not by MINUTES without one", late, BOOK, 0, 2, 1, 2);
    }

    private static void ownEnough() {
        WhoseRound x = Check.tableOf("one 0 100 5 50 poor purse 10;one 0 100 7 50 purse 13;begin 2;");
        rounds("OWN: who has enough gets", x, OWN, row(0, NONE, 12, 3, 3), row(50, NONE, 5, 1, 3));
        due("OWN: one EMPTY is not as many as begin tells", x.evening(OWN, 0, 5), 0);
        due("OWN: what is left", x.of(OWN, 0, 1, 6), 6);
        x.set(1, 4, 14);
        rounds("OWN: just enough", x, OWN, row(0, NONE, 12, 3, 3), row(50, NONE, 12, 3, 3));
        due("OWN: none is left", x.of(OWN, 0, 1, 6) + x.of(OWN, 0, 0, 6), 0);
        due("OWN: a poor one pays", x.of(OWN, 0, 0, 1), 10);
        due("OWN: nobody has bought a ROUND", x.of(OWN, 0, 0, 3) + x.of(OWN, 0, 1, 3), 0);
        due("OWN: the seed stays", x.evening(OWN, -5, 6), -5);
    }

    private static void ownAny() {
        WhoseRound x = Check.tableOf("one 0 20 5 99 purse 4;one 10 20 7 99 purse 7;");
        rounds("OWN: a ROUND if any does", x, OWN, row(10, NONE, 7, 2, 3));
        due("OWN: no ROUND if none does", x.evening(OWN, 0, 5), 19);
        x.set(1, 4, 6);
        rounds("OWN: none", x, OWN);
        due("OWN: in all MINUTES there", x.evening(OWN, 0, 5), 20);
        due("OWN: nothing COST", x.evening(OWN, 0, 1), 0);
        WhoseRound not = Check.tableOf("one 0 20 5 9;one 0 20 5 99;one 0 20 5 99 purse 0;begin 2;");
        rounds("OWN: who has a glass gets none", not, OWN,
            row(0, NONE, 10, 3, 7), row(9, NONE, 5, 1, 7), row(18, NONE, 5, 1, 7));
    }

    // ---- FAR, WORST, EVER: promise 8

    private static void far() {
        WhoseRound x = Check.tableOf("one 0 50 5 60;one 0 240 7 60;begin 2;");
        due("FAR when one GOES: ahead", x.of(TURN, 0, 0, 5), 7);
        due("FAR at the end: behind, without sign", x.of(TURN, 0, 1, 5), 7);
        due("OUT has its sign", x.of(TURN, 0, 1, 4), -7);
        x.set(0, 7, -7);
        due("FAR: CARRIED counts", x.of(TURN, 0, 0, 5), 0);
        x.set(0, 7, -99999);
        due("FAR: far behind", x.of(TURN, 0, 0, 5), 99992);
        x.set(0, 7, 99999);
        due("FAR: far ahead", x.of(TURN, 0, 0, 5), 100006);
        due("WORST: far ahead", x.evening(TURN, 0, 2), 100006);
    }

    private static void worstOfSeveral() {
        WhoseRound x = Check.tableOf("one 0 9 5 9;one 0 9 6 9;one 0 9 5 9;");
        x.set(0, 7, -6);
        due("promise 8: WORST", x.evening(TURN, 0, 2), 6);
        due("promise 8: of several the least", x.evening(TURN, 0, 3), 1);
        x.set(2, 7, -2);
        due("promise 8: behind by a penny more", x.evening(TURN, 0, 3), 2);
        x.set(0, 7, -3);
        due("promise 8: of two, without sign", x.evening(TURN, 0, 2), 8);
        x.set(2, 7, 13);
        due("promise 8: ahead as far as another", x.evening(TURN, 0, 3), 0);
        due("promise 8: nobody OUT, the least", Check.tableOf("one 0 9 1 9;one 0 9 1 9;").evening(OWN, 0, 3), 0);
        due("promise 8: nobody OUT", Check.tableOf("one 0 9 1 9;one 0 9 1 9;").evening(OWN, 0, 2), 0);
    }

    private static void ever() {
        WhoseRound x = Check.tableOf("one 0 240 5 60;one 0 240 7 60;begin 2;");
        due("promise 8: EVER is behind a ROUND, not the end", x.evening(TURN, 0, 4), 9);
        due("promise 8: WORST is the end", x.evening(TURN, 0, 2), 4);
        x.set(1, 7, -20);
        due("promise 8: EVER without sign", x.evening(TURN, 0, 4), 29);
        WhoseRound away = Check.tableOf("one 0 240 5 99;one 0 240 5 99;one 10 20 5 9;begin 2;");
        away.set(2, 7, 500);
        due("promise 8: EVER of those there", away.evening(OWN, 0, 4), 0);
        away.set(2, 0, 0);
        due("promise 8: EVER of who was there at one ROUND", away.evening(OWN, 0, 4), 500);
        WhoseRound none = Check.tableOf("one 0 240 5 99 poor;");
        none.set(0, 7, -500);
        WhoseRound three = Check.tableOf("one 0 9 5 9;one 0 9 5 9;one 0 9 5 9;");
        for (int p = 0; p < 3; p++) {
            for (int other = 0; other < 3; other++) {
                three.set(other, 6, other == p ? 0 : 1);
            }
            due("promise 8: EVER of whoever it is", three.evening(TURN, 0, 4), 10);
        }
        due("promise 8: EVER of no ROUND", none.evening(TURN, 0, 4), 0);
        due("promise 8: WORST of no ROUND", none.evening(TURN, 0, 2), 500);
        due("promise 8: whose, of no ROUND", none.evening(TURN, 0, 3), 0);
        due("promise 8: EVER of no ROUND, asked again", none.evening(TURN, 0, 4), 0);
    }

    private static void eveningOfNobody() {
        WhoseRound x = new WhoseRound();
        int[] want = {0, 0, 0, NONE, 0, 0, -7};
        for (int rule = 0; rule < 7; rule++) {
            for (int what = 0; what < 7; what++) {
                due("promise 8: nobody by " + rule + ", " + what, x.evening(rule, -7, what), want[what]);
            }
        }
    }

    private static void eveningBad() {
        WhoseRound x = Check.tableOf("one 0 240 5 60;");
        for (int rule : new int[] {7, 8, MAX, -1, MIN}) {
            due("promise 8: BAD, RULE " + rule, x.evening(rule, 0, 0), BAD);
            due("promise 8: BAD, RULE " + rule + " of nobody", new WhoseRound().evening(rule, 0, 0), BAD);
        }
        for (int what : new int[] {7, 8, MAX, -1, MIN}) {
            due("promise 8: BAD, what " + what, x.evening(0, 0, what), BAD);
        }
        for (int seed : SEEDS) {
            due("promise 8: every seed is as told", x.evening(LOT, seed, 0), 4);
            due("promise 8: the seed stays but by LOT", x.evening(TURN, seed, 6), seed);
        }
    }

    private static void minutesWithout() {
        WhoseRound x = Check.tableOf("one 0 240 5 60 purse 5;");
        due("promise 8: from 60 on", x.evening(TURN, 0, 5), 180);
        x.set(0, 1, 60);
        due("promise 8: gone by then", x.evening(TURN, 0, 5), 0);
        x.set(0, 1, 61);
        due("promise 8: one MINUTE", x.evening(TURN, 0, 5), 1);
        WhoseRound wait = Check.tableOf("one 0 100 5 60 poor;one 0 100 5 99 poor;one 0 1 5 99;begin 2;");
        due("promise 8: not as many EMPTY as begin tells", wait.evening(TURN, 0, 5), 1);
        WhoseRound late = Check.tableOf("one 5 240 5 60 purse 5;");
        for (int i = 0; i < 3; i++) {
            due("promise 8: from 65 on, not ahead of 5, each time it is asked", late.evening(TURN, 0, 5), 175);
        }
        WhoseRound fast = Check.tableOf("one 0 240 1 1 purse 39;");
        due("promise 8: 39 ROUNDS, then none", fast.evening(TURN, 0, 5), 201);
        fast.set(0, 4, 40);
        due("promise 8: not because of 40 ROUNDS", fast.evening(TURN, 0, 5), 0);
        fast.set(0, 4, 0);
        due("promise 8: each MINUTE", fast.evening(OWN, 0, 5), 240);
    }

    // ---- promises 9 to 11

    private static void roundBad() {
        WhoseRound x = Check.tableOf("one 0 240 5 60;one 0 240 7 60;begin 2;");
        for (int i : new int[] {4, 5, 39, 40, MAX, -1, MIN}) {
            due("promise 9: BAD, no ROUND " + i, x.round(TURN, 0, i, 0), BAD);
        }
        for (int what : new int[] {5, 6, MAX, -1, MIN}) {
            due("promise 9: BAD, what " + what, x.round(TURN, 0, 0, what), BAD);
        }
        for (int rule : new int[] {7, MAX, -1, MIN}) {
            due("promise 9: BAD, RULE " + rule, x.round(rule, 0, 0, 0), BAD);
        }
        due("promise 9: the first", x.round(TURN, 0, 0, 0), 0);
        due("promise 9: the last", x.round(TURN, 0, 3, 0), 180);
        due("promise 9: of nobody", new WhoseRound().round(TURN, 0, 0, 0), BAD);
        x.set(0, 1, 1);
        x.set(1, 1, 1);
        due("promise 9: a ROUND that there is no more", x.round(TURN, 0, 1, 0), BAD);
    }

    private static void roundBits() {
        WhoseRound x = Check.tableOf("one 0 240 9 99;".repeat(7) + "one 50 60 8 99;");
        rounds("promise 9: all eight", x, FIRST, row(0, 0, 63, 127, 127), row(50, 7, 8, 128, 255),
            row(99, 0, 63, 127, 127), row(198, 0, 63, 127, 127));
        due("promise 9: bought by nobody", x.round(OWN, 0, 1, 1), NONE);
    }

    private static void ofBad() {
        WhoseRound x = Check.tableOf("one 0 240 5 60;one 0 240 7 60;");
        for (int p : new int[] {2, 7, 8, MAX, -1, MIN}) {
            due("promise 10: BAD, no ONE " + p, x.of(TURN, 0, p, 0), BAD_PENCE);
        }
        for (int what : new int[] {7, 8, MAX, -1, MIN}) {
            due("promise 10: BAD, what " + what, x.of(TURN, 0, 0, what), BAD_PENCE);
        }
        for (int rule : new int[] {7, MAX, -1, MIN}) {
            due("promise 10: BAD, RULE " + rule, x.of(rule, 0, 0, 0), BAD_PENCE);
        }
        due("promise 10: of nobody", new WhoseRound().of(TURN, 0, 0, 0), BAD_PENCE);
        Check.write(x, "one 0 1 1 9;one 0 1 1 9;");
        x.table();
        due("promise 10: OUT may be -1", x.of(TURN, 0, 1, 4), -1);
    }

    private static void ofOne() {
        WhoseRound x = Check.tableOf("one 0 240 5 60 purse 30;one 0 50 7 60;one 100 110 9 9 poor;begin 2;");
        int[][] want = {{20, 27, 4, 4, 7, 7, 3}, {7, 0, 1, 0, -7, 7, 999}, {0, 0, 0, 0, 0, 0, 999}};
        for (int p = 0; p < 3; p++) {
            for (int what = 0; what < 7; what++) {
                due("promise 10: of " + p + ", " + what, x.of(TURN, 0, p, what), want[p][what]);
            }
        }
        x.set(0, 4, 27);
        due("promise 10: nothing is left", x.of(TURN, 0, 0, 6), 0);
    }

    private static void fairestOfSeveral() {
        WhoseRound even = Check.tableOf("one 0 9 5 9;");
        int[] want = {TURN, TURN, 0, 0};
        for (int what = 0; what < 4; what++) {
            due("promise 11: of several the least, " + what, even.fairest(0, what), want[what]);
        }
        WhoseRound x = Check.tableOf("one 0 120 5 60;one 0 120 5 60;begin 2;");
        x.set(0, 7, 3);
        x.set(1, 7, -3);
        // By TURN out by 3, by 8 at worst; by OWE 1 buys first: out by 3, by 3, by 2 behind it.
        due("promise 11: WORST of TURN", x.evening(TURN, 0, 2), 3);
        due("promise 11: WORST of OWE", x.evening(OWE, 0, 2), 3);
        due("promise 11: EVER of TURN", x.evening(TURN, 0, 4), 8);
        due("promise 11: EVER of OWE", x.evening(OWE, 0, 4), 3);
        due("promise 11: the least WORST, of several the least", x.fairest(0, 0), TURN);
        due("promise 11: the least EVER, of several the least", x.fairest(0, 1), OWE);
        due("promise 11: that WORST", x.fairest(0, 2), 3);
        due("promise 11: that EVER", x.fairest(0, 3), 3);
        x.set(0, 7, 0);
        x.set(1, 7, 0);
        due("promise 11: by OWN alone nobody ever is", x.fairest(0, 1), OWN);
        x.set(0, 7, 10);
        x.set(1, 7, -10);
        // By OWE who owes 10 buys both ROUNDS: by 5 behind the first, by none at the end.
        due("promise 11: evened by OWE", x.fairest(0, 0), OWE);
        due("promise 11: the least WORST is 0", x.fairest(0, 2), 0);
        due("promise 11: the least EVER is 5", x.fairest(0, 3), 5);
    }

    private static void fairestBad() {
        WhoseRound x = Check.tableOf("one 0 9 5 9;");
        for (int what : new int[] {4, 5, MAX, -1, MIN}) {
            due("promise 11: BAD, what " + what, x.fairest(0, what), BAD);
            due("promise 11: BAD ahead of STATE", new WhoseRound().fairest(0, what), BAD);
        }
        for (int what = 0; what < 4; what++) {
            due("promise 11: STATE, nobody", new WhoseRound().fairest(0, what), STATE);
        }
        WhoseRound two = Check.tableOf("one 0 120 5 60;one 0 120 5 60;begin 2;");
        two.set(0, 6, 1);
        due("promise 11: only one can buy, all but OWN alike", two.fairest(MIN, 0), OWN);
        due("promise 11: that", two.fairest(MIN, 2), 0);
    }
}
