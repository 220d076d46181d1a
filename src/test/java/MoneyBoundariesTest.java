/** Promises 20 to 26, what is right: each sentence of the document that names a boundary, by a test of its own. */
public final class MoneyBoundariesTest {
    private static final int MIN = Integer.MIN_VALUE, MAX = Integer.MAX_VALUE;
    private static final int BAD = WhoseRound.BAD, STATE = WhoseRound.STATE, NONE = WhoseRound.NONE;
    private static final int BAD_PENCE = -1000000;
    private static final int TURN = 0, OWE = 1, FIRST = 2, LOT = 3, LONGEST = 4, BOOK = 5, OWN = 6;

    /** Four ROUNDS, at 0, 60, 120, 180, of 12 pence each; HAD 20 and 28. */
    private static final String TWO = "one 0 240 5 60;one 0 240 7 60;begin 2;";
    /** One ROUND of 10. */
    private static final String ONCE = "one 0 9 5 9;one 0 9 5 9;";

    private MoneyBoundariesTest() {
    }

    public static void main(String[] args) {
        rightLowestTerms();
        rightOfNothing();
        rightState();
        rightBad();
        lotOfSoMany();
        lotOfNone();
        lotOfMost();
        lotOfThoseThere();
        lotRefused();
        fridaysBounds();
        fridaysFirstEven();
        fridaysGreatest();
        fridaysGoOn();
        fridaysLongest();
        fridaysStay();
        fridaysBad();
        goesCarries();
        goesFar();
        goesTillTheLastCall();
        goesRefused();
        coinsOfNobody();
        coinsState();
        coinsOfEight();
        coinsBad();
        thinkBounds();
        thinkBad();
        thoughtSum();
        thoughtSo();
        thoughtWho();
        thoughtBad();
        Check.finish();
    }

    private static void due(String call, long got, long want) {
        Check.due(call, got, want);
    }

    // ---- promise 20

    private static void right(String call, WhoseRound x, int p, long numerator, long denominator) {
        due("promise 20: " + call + ", numerator", x.right(TURN, 0, p, 0), numerator);
        due("promise 20: " + call + ", denominator", x.right(TURN, 0, p, 1), denominator);
    }

    private static void rightLowestTerms() {
        WhoseRound x = Check.tableOf("one 0 240 5 60 part 2;one 0 240 7 60 part 7;begin 2;");
        right("48 by 2 of 9", x, 0, 32, 3);
        right("48 by 7 of 9", x, 1, 112, 3);
        x.set(0, 5, 9);
        right("48 by 9 of 16", x, 0, 27, 1);
        x.set(1, 5, 9);
        right("halves", x, 0, 24, 1);
        x.set(1, 5, 0);
        right("all of it", x, 0, 48, 1);
        due("promise 20: by OWN, of what that COST", x.right(OWN, 0, 0, 0), 48);
        x.set(1, 4, 7);
        due("promise 20: by OWN, of less", x.right(OWN, 0, 0, 0), 27);
        WhoseRound most = Check.tableOf("one 0 240 99 1 part 9;".repeat(8));
        // Each has enough for one ROUND.
        right("8 times 792 by 9 of 72", most, 7, 792, 1);
        most.set(0, 5, 8);
        right("8 times 792 by 9 of 71", most, 7, 57024, 71);
    }

    private static void rightOfNothing() {
        WhoseRound x = Check.tableOf("one 0 240 5 60 part 0;one 0 240 7 60 part 7;begin 2;");
        right("0 is 0 by 1, no part", x, 0, 0, 1);
        WhoseRound poor = Check.tableOf("one 0 240 5 60 part 3 poor;one 0 240 5 60 part 5 poor;");
        right("0 is 0 by 1, nothing COST", poor, 0, 0, 1);
    }

    private static void rightState() {
        WhoseRound x = Check.tableOf("one 0 9 5 9 part 0;one 0 9 5 9 part 0;");
        right("all parts are 0", x, 0, STATE, STATE);
        right("all parts are 0", x, 1, STATE, STATE);
        due("promise 20: BAD ahead of STATE, no ONE", x.right(TURN, 0, 2, 0), BAD);
        due("promise 20: BAD ahead of STATE, RULE", x.right(7, 0, 0, 0), BAD);
        due("promise 20: BAD ahead of STATE, what", x.right(TURN, 0, 0, 2), BAD);
        x.set(1, 5, 1);
        right("one part is not", x, 0, 0, 1);
        right("one part is all", x, 1, 10, 1);
    }

    private static void rightBad() {
        WhoseRound x = Check.tableOf(TWO);
        for (int p : new int[] {2, 8, MAX, -1, MIN}) {
            due("promise 20: BAD, no ONE " + p, x.right(TURN, 0, p, 0), BAD);
        }
        for (int rule : new int[] {7, MAX, -1, MIN}) {
            due("promise 20: BAD, RULE " + rule, x.right(rule, 0, 0, 0), BAD);
        }
        for (int what : new int[] {2, 3, MAX, -1, MIN}) {
            due("promise 20: BAD, what " + what, x.right(TURN, 0, 0, what), BAD);
        }
        due("promise 20: BAD, nobody", new WhoseRound().right(TURN, 0, 0, 0), BAD);
    }

    // ---- promise 21

    private static void lot(String call, WhoseRound x, int p, long... want) {
        for (int what = 0; what < 4; what++) {
            due("promise 21: " + call + ", " + what, x.lot(p, what), want[what]);
        }
    }

    private static void lotOfSoMany() {
        for (int n = 1; n <= 8; n++) {
            // One ROUND of n + 1: by lot of n.
            WhoseRound x = Check.tableOf("one 0 9 2 9;" + "one 0 9 1 9;".repeat(n - 1));
            long square = (n + 1) * (n + 1);
            lot("of " + n, x, n - 1, n + 1, n, n == 1 ? 0 : square * (n - 1), n == 1 ? 1 : n * n);
        }
    }

    private static void lotOfNone() {
        WhoseRound x = Check.tableOf("one 0 9 5 9;one 0 9 5 9 poor;one 20 30 5 10;");
        lot("0 is 0 by 1, who is poor", x, 1, 0, 1, 0, 1);
        lot("who is the only one: no SPREAD", x, 0, 10, 1, 0, 1);
        lot("who is the only one there: no SPREAD", x, 2, 5, 1, 0, 1);
    }

    private static void lotOfMost() {
        WhoseRound x = Check.tableOf("one 0 240 99 1;".repeat(8));
        lot("40 ROUNDS of 792 by eight", x, 7, 3960, 1, 2744280, 1);
        x.set(7, 6, 1);
        // 31680 by 7; 40 times 792 times 792 times 6 by 49.
        lot("40 ROUNDS of 792 by seven", x, 0, 31680, 7, 150543360, 49);
    }

    private static void lotOfThoseThere() {
        // ROUNDS of 5 by 0 alone, then 12 by 0 or 1, then 5 by 0 alone.
        WhoseRound x = Check.tableOf("one 0 240 5 99 purse 0;one 10 109 7 99 purse 0;begin 2;");
        lot("purses not looked at, three ROUNDS", x, 0, 16, 1, 36, 1);
        lot("purses not looked at, one ROUND", x, 1, 6, 1, 36, 1);
        due("promise 21: an EVENING looks at them still", x.evening(TURN, 0, 0), 0);
        due("promise 21: and by OWN", x.evening(OWN, 0, 0), 0);
        lot("nor behind one by OWN", x, 1, 6, 1, 36, 1);
    }

    private static void lotRefused() {
        WhoseRound x = Check.tableOf("one 0 9 2 9 poor;one 1 9 2 9;");
        for (int what = 0; what < 4; what++) {
            due("promise 21: NONE, nobody there could buy in one MINUTE", x.lot(1, what), NONE);
            due("promise 21: BAD, nobody", new WhoseRound().lot(0, what), BAD);
        }
        for (int p : new int[] {2, 8, MAX, -1, MIN}) {
            due("promise 21: BAD ahead of NONE, no ONE " + p, x.lot(p, 0), BAD);
        }
        for (int what : new int[] {4, 5, MAX, -1, MIN}) {
            due("promise 21: BAD ahead of NONE, what " + what, x.lot(0, what), BAD);
        }
        x.set(1, 0, 0);
        lot("somebody could in each", x, 1, 4, 1, 0, 1);
    }

    // ---- promise 22

    private static void fridays(String call, WhoseRound x, int rule, int n, int... want) {
        String told = "promise 22: " + call + ", " + n + " by " + rule + ", ";
        for (int what = 0; what < 4; what++) {
            due(told + what, x.fridays(rule, 0, n, what), want[what]);
        }
    }

    private static void fridaysBounds() {
        WhoseRound x = Check.tableOf(ONCE);
        fridays("one", x, TURN, 1, 5, 5, NONE, 10);
        fridays("two", x, TURN, 2, 0, 5, 2, 20);
        fridays("59", x, TURN, 59, 5, 5, 2, 590);
        fridays("60", x, TURN, 60, 0, 5, 2, 600);
        for (int n : new int[] {0, -1, MIN, 61, MAX}) {
            fridays("BAD", x, TURN, n, BAD, BAD, BAD, BAD);
            fridays("BAD of nobody", new WhoseRound(), TURN, n, BAD, BAD, BAD, BAD);
        }
        WhoseRound most = Check.tableOf("one 0 240 99 1;".repeat(8));
        due("promise 22: 60 times 10 times 792", most.fridays(OWN, 0, 60, 3), 475200);
    }

    private static void fridaysFirstEven() {
        WhoseRound x = Check.tableOf(ONCE);
        fridays("the first", x, OWN, 3, 0, 0, 1, 30);
        fridays("never", x, FIRST, 3, 15, 15, NONE, 30);
        x.set(0, 7, -5);
        x.set(1, 7, 5);
        fridays("the first, by what is CARRIED", x, TURN, 1, 0, 0, 1, 10);
        fridays("the first, and not since", x, TURN, 2, 5, 5, 1, 20);
        x.set(0, 7, -25);
        x.set(1, 7, 25);
        fridays("the last of them", x, FIRST, 5, 0, 20, 5, 50);
        fridays("one too few", x, FIRST, 4, 5, 20, NONE, 40);
        fridays("nobody", new WhoseRound(), TURN, 60, 0, 0, 1, 0);
        WhoseRound one = Check.tableOf("one 0 9 5 9;one 0 9 5 9;one 100 101 5 9;");
        one.set(2, 7, 1);
        fridays("one is OUT always", one, OWN, 60, 1, 1, NONE, 900);
    }

    private static void fridaysGreatest() {
        WhoseRound x = Check.tableOf(ONCE);
        x.set(0, 7, -15);
        x.set(1, 7, 15);
        fridays("ahead of the first does not count", x, FIRST, 1, 10, 10, NONE, 10);
        fridays("greatest behind the first", x, FIRST, 4, 5, 10, 3, 40);
        fridays("greatest behind the last", x, FIRST, 6, 15, 15, 3, 60);
        x.set(1, 7, -99999);
        fridays("without sign", x, FIRST, 2, 100009, 100009, NONE, 20);
    }

    private static void fridaysGoOn() {
        WhoseRound three = Check.tableOf("one 0 60 1 50;one 0 60 1 50;one 0 60 1 50;");
        // Two ROUNDS of 3 an EVENING: 0 and 1, 2 and 0, 1 and 2.
        int[] rules = {TURN, OWE, LONGEST, BOOK};
        for (int rule : rules) {
            fridays("who bought last goes on", three, rule, 1, 2, 2, NONE, 6);
            fridays("who bought last goes on", three, rule, 2, 2, 2, NONE, 12);
            fridays("who bought last goes on", three, rule, 3, 0, 2, 3, 18);
        }
        three.book(2);
        three.book(2);
        fridays("the BOOK is each EVENING's", three, BOOK, 2, 8, 8, NONE, 12);
        WhoseRound x = Check.tableOf(ONCE);
        // By 16838, 5758, 10113, 17515 from seed 1: 0, 0, 1, 1.
        int[] far = {5, 10, 5, 0};
        for (int n = 1; n <= 4; n++) {
            due("promise 22: the seed goes on, " + n, x.fridays(LOT, 1, n, 0), far[n - 1]);
        }
        WhoseRound purse = Check.tableOf("one 0 9 5 9 purse 10;one 0 9 5 9 purse 0;");
        fridays("a purse is each EVENING's", purse, TURN, 3, 15, 15, NONE, 30);
        WhoseRound full = Check.tableOf("one 0 240 1 1;one 0 240 1 1;");
        fridays("40 ROUNDS are each EVENING's", full, OWN, 60, 0, 0, 1, 60 * 80);
    }

    private static void fridaysLongest() {
        // A ROUND of 2 for 1 and 2, then one of 3 for all; bought by 1 0, 2 1, 2 0, 1 2, 1 0.
        WhoseRound x = Check.tableOf("one 50 60 1 99;one 0 60 1 50;one 0 60 1 50;begin 3;");
        int[] far = {2, 2, 3, 2, 4};
        for (int n = 1; n <= 5; n++) {
            due("promise 22: when one bought last goes on, " + n, x.fridays(LONGEST, 0, n, 0), far[n - 1]);
        }
        due("promise 22: greatest behind any of four", x.fridays(LONGEST, 0, 4, 1), 3);
    }

    private static void fridaysStay() {
        WhoseRound x = Check.tableOf(TWO);
        x.set(0, 7, 3);
        int worst = x.evening(TURN, 0, 2);
        x.fridays(TURN, 0, 7, 0);
        x.fridays(LOT, 5, 60, 3);
        due("promise 22: all stays, CARRIED", x.one(0, 7), 3);
        due("promise 22: all stays, CARRIED of another", x.one(1, 7), 0);
        due("promise 22: all stays, who bought last", x.round(TURN, 0, 0, 1), 0);
        due("promise 22: all stays, when", x.round(LONGEST, 0, 0, 1), 0);
        due("promise 22: all stays, an EVENING", x.evening(TURN, 0, 2), worst);
        due("promise 22: all stays, Fridays again", x.fridays(TURN, 0, 1, 3), 48);
    }

    private static void fridaysBad() {
        WhoseRound x = Check.tableOf(ONCE);
        for (int rule : new int[] {7, MAX, -1, MIN}) {
            due("promise 22: BAD, RULE " + rule, x.fridays(rule, 0, 1, 0), BAD);
        }
        for (int what : new int[] {4, MAX, -1, MIN}) {
            due("promise 22: BAD, what " + what, x.fridays(TURN, 0, 1, what), BAD);
        }
    }

    // ---- promise 23

    private static void goesCarries() {
        WhoseRound x = Check.tableOf(TWO);
        x.think(0, 6);
        x.book(1);
        int[] carried = {4, 8, 12};
        for (int want : carried) {
            due("promise 23: how many ROUNDS", x.goes(TURN, 0), 4);
            due("promise 23: OUT is CARRIED", x.one(0, 7), want);
            due("promise 23: OUT is CARRIED, of the other", x.one(1, 7), -want);
        }
        due("promise 23: who bought last does not go on", x.round(TURN, 0, 0, 1), 0);
        due("promise 23: THOUGHT stays", x.think(0, 6), 6);
        due("promise 23: the BOOK stays", x.count(2), 1);
        due("promise 23: by OWN", x.goes(OWN, 0), 4);
        due("promise 23: by OWN as it was", x.one(0, 7), 12);
        WhoseRound eight = Check.tableOf("one 0 9 1 9;".repeat(8));
        due("promise 23: eight", eight.goes(TURN, 0), 1);
        due("promise 23: eight, the first", eight.one(0, 7), 7);
        due("promise 23: eight, the last", eight.one(7, 7), -1);
    }

    private static void goesFar() {
        WhoseRound x = Check.tableOf("one 0 9 5 9;one 0 9 7 9;");
        x.set(0, 7, 99999);
        x.set(1, 7, -99999);
        due("promise 23: one ROUND", x.goes(TURN, 0), 1);
        due("promise 23: CARRIED above 99999", x.one(0, 7), 100006);
        due("promise 23: CARRIED below -99999", x.one(1, 7), -100006);
        due("promise 7: what it was, above 99999", x.set(0, 7, 0), 100006);
        due("promise 7: it can not become so", x.set(0, 7, 100000), BAD_PENCE);
    }

    private static void goesTillTheLastCall() {
        // A table by 8 calls, 503 that go, and one that asks: the 512th.
        WhoseRound x = Check.tableOf(TWO);
        for (int i = 0; i < 503; i++) {
            x.goes(TURN, 0);
        }
        due("promise 23: the 512th call is answered, too", x.one(0, 7), 2012);
    }

    private static void goesRefused() {
        WhoseRound x = Check.tableOf(TWO);
        for (int rule : new int[] {7, MAX, -1, MIN}) {
            due("promise 23: BAD, RULE " + rule, x.goes(rule, 0), BAD);
            due("promise 23: BAD changes nothing", x.one(0, 7), 0);
        }
        due("promise 23: nobody, no ROUND", new WhoseRound().goes(TURN, 0), 0);
        x.set(0, 6, 1);
        x.set(1, 6, 1);
        due("promise 23: nobody could buy, no ROUND", x.goes(LOT, MIN), 0);
    }

    // ---- promise 24

    private static void coins(String call, int coins, int sets, int... carried) {
        WhoseRound x = Check.tableOf("one 0 9 1 9;".repeat(carried.length));
        for (int p = 0; p < carried.length; p++) {
            x.set(p, 7, carried[p]);
        }
        due("promise 24: " + call + ", how many", x.coins(0), coins);
        due("promise 24: " + call + ", sets", x.coins(1), sets);
    }

    private static void coinsOfNobody() {
        coins("nobody", 0, 0);
        coins("one", 0, 1, 0);
        coins("eight are even", 0, 8, 0, 0, 0, 0, 0, 0, 0, 0);
    }

    private static void coinsState() {
        coins("STATE, one is OUT", STATE, STATE, 1);
        coins("STATE, by a penny above", STATE, STATE, 5, -4);
        coins("STATE, by a penny below", STATE, STATE, 4, -5);
        coins("STATE, all far ahead", STATE, STATE, 99999, 99999, 99999, 99999, 99999, 99999, 99999, 99999);
        coins("STATE, the last", STATE, STATE, 0, 0, 0, 0, 0, 0, 0, -1);
    }

    private static void coinsOfEight() {
        coins("two", 1, 1, 1, -1);
        coins("four pairs", 4, 4, 1, 2, 3, 4, -4, -3, -2, -1);
        coins("one to seven", 7, 1, 7, -1, -1, -1, -1, -1, -1, -1);
        coins("far ahead, far behind", 4, 4, 99999, -99999, 99999, -99999, 99999, -99999, 99999, -99999);
        coins("one set of eight", 7, 1, 1, 2, 4, 8, 16, 32, 64, -127);
        coins("two sets of four", 6, 2, 1, 2, 4, -7, 16, 32, 64, -112);
        coins("not the nearest pairs first", 5, 3, 5, 3, -2, -6, 9, -9, 7, -7);
        coins("who is even is a set", 4, 4, 0, 10, -1, -9, 0, 20, -3, -17);
    }

    private static void coinsBad() {
        WhoseRound x = Check.tableOf(TWO);
        x.set(0, 7, 1);
        for (int what : new int[] {2, MAX, -1, MIN}) {
            due("promise 24: BAD ahead of STATE, what " + what, x.coins(what), BAD);
            due("promise 24: BAD of nobody, what " + what, new WhoseRound().coins(what), BAD);
        }
    }

    // ---- promises 25, 26

    private static void thinkBounds() {
        WhoseRound x = Check.tableOf(TWO);
        due("promise 25: 0 at first", x.think(1, 0), 0);
        due("promise 25: 0 is taken", x.think(1, 9999), 0);
        due("promise 25: 9999 is taken", x.think(1, 1), 9999);
        due("promise 25: of one alone", x.think(0, 1), 0);
        for (int v : new int[] {10000, MAX, -1, MIN}) {
            due("promise 25: BAD, " + v, x.think(1, v), BAD);
            due("promise 25: BAD changes nothing", x.think(1, 1), 1);
        }
    }

    private static void thinkBad() {
        WhoseRound x = Check.tableOf(TWO);
        for (int p : new int[] {2, 8, MAX, -1, MIN}) {
            due("promise 25: BAD, no ONE " + p, x.think(p, 0), BAD);
        }
        due("promise 25: BAD, nobody", new WhoseRound().think(0, 0), BAD);
    }

    /** What two think, and what is due by TURN, by which each has PAID 24. */
    private static void thought(int first, int second, int more, int so, int who) {
        WhoseRound x = Check.tableOf(TWO);
        x.think(0, first);
        x.think(1, second);
        String call = "promise 26: " + first + " and " + second;
        due(call + ", more than it COST", x.thought(TURN, 0, 0), more);
        due(call + ", what is so", x.thought(TURN, 0, 1), so);
        due(call + ", who most too much", x.thought(TURN, 0, 2), who);
    }

    private static void thoughtSum() {
        thought(0, 0, -48, 0, NONE);
        thought(23, 24, -1, 1, NONE);
        thought(24, 24, 0, 2, NONE);
        thought(9999, 9999, 19950, 0, 0);
        int[] nobody = {0, 0, NONE};
        for (int what = 0; what < 3; what++) {
            due("promise 26: nobody, " + what, new WhoseRound().thought(TURN, 0, what), nobody[what]);
        }
    }

    private static void thoughtSo() {
        thought(24, 23, -1, 1, NONE);
        thought(25, 23, 0, 0, 0);
        WhoseRound own = Check.tableOf(TWO);
        own.think(0, 20);
        due("promise 26: what is so by OWN", own.thought(OWN, 0, 1), 1);
        own.think(1, 28);
        due("promise 26: all is so by OWN", own.thought(OWN, 0, 1), 2);
        due("promise 26: what it COST by OWN", own.thought(OWN, 0, 0), 0);
        WhoseRound x = Check.tableOf("one 0 9 1 9 poor;".repeat(8));
        due("promise 26: who PAID nothing and THINKS so", x.thought(TURN, 0, 1), 8);
    }

    private static void thoughtWho() {
        thought(25, 24, 1, 1, 0);
        thought(24, 25, 1, 1, 1);
        thought(25, 25, 2, 0, 0);
        thought(25, 26, 3, 0, 1);
        thought(26, 25, 3, 0, 0);
        thought(24, 0, -24, 1, NONE);
    }

    private static void thoughtBad() {
        WhoseRound x = Check.tableOf(TWO);
        for (int rule : new int[] {7, MAX, -1, MIN}) {
            due("promise 26: BAD, RULE " + rule, x.thought(rule, 0, 0), BAD_PENCE);
        }
        for (int what : new int[] {3, MAX, -1, MIN}) {
            due("promise 26: BAD, what " + what, x.thought(TURN, 0, what), BAD_PENCE);
            due("promise 26: BAD of nobody, what " + what, new WhoseRound().thought(TURN, 0, what), BAD_PENCE);
        }
    }
}
