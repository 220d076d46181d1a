/** Promises 12 to 19: known beforehand, told, who gains; each sentence that names a boundary, by a test of its own. */
public final class TellingBoundariesTest {
    private static final int MIN = Integer.MIN_VALUE, MAX = Integer.MAX_VALUE;
    private static final int BAD = WhoseRound.BAD, STATE = WhoseRound.STATE, NONE = WhoseRound.NONE;
    private static final int FULL = WhoseRound.FULL;
    private static final int TURN = 0, OWE = 1, FIRST = 2, LOT = 3, LONGEST = 4, BOOK = 5, OWN = 6;

    /** Four ROUNDS, at 0, 60, 120, 180, of 12 pence each; HAD 20 and 28. */
    private static final String TWO = "one 0 240 5 60;one 0 240 7 60;begin 2;";
    /** A poor one waits for another till MINUTE 1. */
    private static final String WAITS = "one 0 240 5 99 poor;one 1 240 5 99;";

    private TellingBoundariesTest() {
    }

    public static void main(String[] args) {
        bestWhat();
        bestOfNobody();
        bestSixRounds();
        bestNone();
        bestPursesNotLookedAt();
        bestOfThoseWhoMay();
        bestFirstOfSeveral();
        bestOfEight();
        bookFull();
        bookBad();
        shut();
        judgeBeyond();
        judgeEach();
        judgeByOwn();
        judgeBad();
        adopt();
        adoptRefused();
        lateFromMinuteZero();
        lateAheadOfGoes();
        lateOfSeveral();
        lateNoGain();
        lateBad();
        slowFromOne();
        slowToNinetyNine();
        slowOfSeveral();
        slowNoGain();
        slowBad();
        sureOfSeveral();
        sureBad();
        Check.finish();
    }

    private static void due(String call, long got, long want) {
        Check.due(call, got, want);
    }

    /** WORST, ROUNDS, and who buys each. */
    private static void best(String call, WhoseRound x, int worst, int... buyers) {
        due(call + ": WORST", x.best(0), worst);
        due(call + ": ROUNDS", x.best(1), buyers.length);
        for (int i = 0; i < 6; i++) {
            due(call + ": who buys ROUND " + i, x.best(10 + i), i < buyers.length ? buyers[i] : BAD);
        }
    }

    // ---- promise 12

    private static void bestWhat() {
        int[] wrong = {-1, 2, 3, 8, 9, 16, 17, 20, MIN, MAX, MIN + 10, MIN + 11};
        WhoseRound nobody = new WhoseRound(), seven = Check.tableOf("one 0 240 5 39;"), none = Check.tableOf(WAITS);
        WhoseRound four = Check.tableOf(TWO);
        for (int what : wrong) {
            due("promise 12: BAD, what " + what, four.best(what), BAD);
            due("promise 12: BAD of nobody, what " + what, nobody.best(what), BAD);
            due("promise 12: BAD ahead of STATE, what " + what, seven.best(what), BAD);
            due("promise 12: BAD ahead of NONE, what " + what, none.best(what), BAD);
        }
        due("promise 12: the last ROUND", four.best(13), 1);
        due("promise 12: BAD, no such ROUND", four.best(14), BAD);
        due("promise 12: BAD, no such ROUND", four.best(15), BAD);
    }

    private static void bestOfNobody() {
        best("promise 12: nobody", new WhoseRound(), 0);
        WhoseRound gone = Check.tableOf(TWO);
        gone.table();
        best("promise 12: nobody any more", gone, 0);
    }

    private static void bestSixRounds() {
        WhoseRound x = Check.tableOf("one 0 240 5 40;");
        best("promise 12: 6 ROUNDS at most", x, 0, 0, 0, 0, 0, 0, 0);
        x.set(0, 3, 39);
        for (int what : new int[] {0, 1, 10, 15}) {
            due("promise 12: STATE, 7 ROUNDS", x.best(what), STATE);
        }
        x.set(0, 3, 1);
        due("promise 12: STATE, 40 ROUNDS", x.best(0), STATE);
        x.set(0, 1, 7);
        due("promise 12: STATE, 7 ROUNDS at once", x.best(15), STATE);
        x.set(0, 1, 6);
        best("promise 12: 6 ROUNDS at once", x, 0, 0, 0, 0, 0, 0, 0);
        x.set(0, 1, 5);
        due("promise 12: BAD looked at last", x.best(15), BAD);
    }

    private static void bestNone() {
        WhoseRound x = Check.tableOf(WAITS);
        for (int what : new int[] {0, 1, 10, 11, 15}) {
            due("promise 12: NONE, nobody there could buy", x.best(what), NONE);
        }
        x.set(1, 0, 0);
        best("promise 12: there from the first ROUND on", x, 15, 1, 1, 1);
        x.set(1, 6, 1);
        due("promise 12: NONE, all are poor", x.best(0), NONE);
        due("promise 12: by OWN they buy", x.evening(OWN, 0, 0), 3);
        due("promise 12: NONE still", x.best(0), NONE);
        WhoseRound end = Check.tableOf("one 0 239 5 99;one 0 240 5 99 poor;begin 2;");
        due("promise 12: who goes last is poor, with a glass", end.best(1), 3);
        end.set(1, 3, 41);
        end.set(0, 1, 50);
        due("promise 12: NONE, the last ROUND", end.best(0), NONE);
        WhoseRound both = Check.tableOf("one 0 240 5 1 poor;one 1 240 5 1;");
        due("promise 12: STATE ahead of NONE", both.best(0), STATE);
    }

    private static void bestPursesNotLookedAt() {
        WhoseRound x = Check.tableOf("one 0 240 5 60 purse 0;one 0 240 7 60 purse 0;begin 2;");
        best("promise 12: purses not looked at", x, 4, 0, 0, 1, 1);
        x.set(0, 4, 12);
        best("promise 12: nor of one", x, 4, 0, 0, 1, 1);
        due("promise 12: an EVENING looks at them still", x.evening(TURN, 0, 0), 1);
        due("promise 12: and by OWN", x.evening(OWN, 0, 1), 10);
        best("promise 12: nor behind one by OWN", x, 4, 0, 0, 1, 1);
    }

    private static void bestOfThoseWhoMay() {
        WhoseRound x = Check.tableOf("one 0 240 5 60;one 0 240 7 60;begin 2;");
        x.set(0, 6, 1);
        best("promise 12: who is not poor", x, 20, 1, 1, 1, 1);
        x.set(0, 6, 0);
        x.set(1, 1, 60);
        // 17 pence in all, 12 and 5 three times: the second is there at the first ROUND alone.
        best("promise 12: who is there", x, 5, 1, 0, 0, 0);
        x.set(0, 7, 12);
        best("promise 12: with what is CARRIED", x, 7, 1, 0, 0, 0);
        x.set(0, 7, -12);
        best("promise 12: with what is CARRIED, behind", x, 7, 0, 0, 0, 0);
    }

    private static void bestFirstOfSeveral() {
        WhoseRound x = Check.tableOf(TWO);
        best("promise 12: of several the first", x, 4, 0, 0, 1, 1);
        x.set(0, 7, 99999);
        best("promise 12: another is OUT by more, whoever buys", x, 99979, 1, 1, 1, 1);
        x.set(0, 7, 0);
        x.set(1, 7, -99999);
        best("promise 12: far behind", x, 99979, 1, 1, 1, 1);
        WhoseRound third = Check.tableOf("one 0 120 5 60;one 0 120 5 60;one 0 1 1 1;begin 2;");
        third.set(2, 7, 90);
        // The third is OUT by 89 whoever buys: of all rows the first.
        best("promise 12: one is OUT by most, of several the first", third, 89, 0, 0);
    }

    private static void bestOfEight() {
        WhoseRound x = Check.tableOf("one 0 240 1 40;".repeat(8));
        // Each HAD 6; who buys one ROUND of 8 is OUT by 2, who buys two by 10, who buys none by 6.
        best("promise 12: eight, 6 ROUNDS", x, 6, 0, 1, 2, 3, 4, 5);
        x.set(7, 7, -18);
        best("promise 12: eight, the last owes", x, 6, 0, 1, 2, 7, 7, 7);
    }

    // ---- promises 13, 14

    private static void bookFull() {
        WhoseRound x = Check.tableOf(TWO);
        for (int i = 1; i <= 12; i++) {
            due("promise 13: how many", x.book(i % 2), i);
        }
        due("promise 13: FULL, the 13th", x.book(0), FULL);
        due("promise 13: FULL, again", x.book(1), FULL);
        due("promise 13: FULL changes nothing", x.count(2), 12);
        due("promise 13: BAD ahead of FULL", x.book(2), BAD);
        due("promise 13: the first is as told", x.round(BOOK, 0, 0, 1), 1);
        x.shut();
        due("promise 13: there is room again", x.book(0), 1);
    }

    private static void bookBad() {
        WhoseRound x = Check.tableOf(TWO);
        for (int p : new int[] {2, 7, 8, MAX, -1, MIN}) {
            due("promise 13: BAD, no ONE " + p, x.book(p), BAD);
            due("promise 13: BAD changes nothing", x.count(2), 0);
        }
        due("promise 13: BAD, nobody", new WhoseRound().book(0), BAD);
        due("promise 13: the last ONE", x.book(1), 1);
        x.set(0, 6, 1);
        due("promise 13: a poor one may be told", x.book(0), 2);
    }

    private static void shut() {
        WhoseRound x = Check.tableOf(TWO);
        due("promise 14: it had none", x.shut(), 0);
        for (int i = 0; i < 12; i++) {
            x.book(1);
        }
        due("promise 14: it had 12", x.shut(), 12);
        due("promise 14: it is empty", x.count(2), 0);
        due("promise 14: nobody is told", x.round(BOOK, 0, 0, 1), 0);
        due("promise 14: it had none then", x.shut(), 0);
    }

    // ---- promise 15

    private static void judgeBeyond() {
        WhoseRound x = Check.tableOf(TWO);
        for (int what = 0; what < 2; what++) {
            due("promise 15: NONE, no BOOK", x.judge(TURN, 0, what), NONE);
        }
        int[] turn = {0, 1, 0, 1};
        for (int p : turn) {
            x.book(p);
            due("promise 15: NONE, beyond the BOOK", x.judge(TURN, 0, 0), NONE);
        }
        x.book(1);
        x.book(1);
        due("promise 15: NONE, beyond the EVENING", x.judge(TURN, 0, 0), NONE);
        due("promise 15: NONE, beyond the EVENING, who", x.judge(TURN, 0, 1), NONE);
        x.set(0, 1, 1);
        x.set(1, 1, 1);
        due("promise 15: NONE, beyond a shorter one", x.judge(LONGEST, 0, 0), NONE);
        WhoseRound poor = Check.tableOf("one 0 240 5 60 poor;");
        poor.book(0);
        due("promise 15: NONE, no ROUND", poor.judge(TURN, 0, 0), NONE);
    }

    private static void judgeEach() {
        int[] turn = {0, 1, 0, 1};
        for (int wrong = 0; wrong < 4; wrong++) {
            WhoseRound x = Check.tableOf(TWO);
            for (int i = 0; i < 4; i++) {
                x.book(i == wrong ? 1 - turn[i] : turn[i]);
            }
            due("promise 15: the ROUND", x.judge(TURN, 0, 0), wrong);
            due("promise 15: who should have", x.judge(TURN, 0, 1), turn[wrong]);
            due("promise 15: by BOOK none is otherwise", x.judge(BOOK, 0, 0), NONE);
        }
        WhoseRound x = Check.tableOf(TWO);
        for (int i = 0; i < 4; i++) {
            x.book(1 - turn[i]);
        }
        due("promise 15: the first of several", x.judge(TURN, 0, 0), 0);
        x.set(1, 4, 0);
        due("promise 15: by BOOK, one that can not", x.judge(BOOK, 0, 0), 0);
        due("promise 15: by BOOK, who should have", x.judge(BOOK, 0, 1), 0);
        WhoseRound lot = Check.tableOf(TWO);
        for (int p : new int[] {0, 0, 1, 0}) {
            lot.book(p);
        }
        // By 16838, 5758, 10113, 17515 from seed 1.
        due("promise 15: by LOT, the last", lot.judge(LOT, 1, 0), 3);
        due("promise 15: by LOT, who should have", lot.judge(LOT, 1, 1), 1);
    }

    private static void judgeByOwn() {
        WhoseRound x = Check.tableOf(TWO);
        x.book(0);
        due("promise 15: by OWN nobody bought it, which is otherwise", x.judge(OWN, 0, 0), 0);
        due("promise 15: by OWN nobody should have", x.judge(OWN, 0, 1), NONE);
        x.shut();
        due("promise 15: by OWN, no BOOK", x.judge(OWN, 0, 0), NONE);
    }

    private static void judgeBad() {
        WhoseRound x = Check.tableOf(TWO);
        x.book(1);
        for (int rule : new int[] {7, MAX, -1, MIN}) {
            due("promise 15: BAD, RULE " + rule, x.judge(rule, 0, 0), BAD);
        }
        for (int what : new int[] {2, MAX, -1, MIN}) {
            due("promise 15: BAD, what " + what, x.judge(TURN, 0, what), BAD);
            due("promise 15: BAD ahead of NONE", new WhoseRound().judge(TURN, 0, what), BAD);
        }
    }

    // ---- promise 16

    private static void adopt() {
        WhoseRound x = Check.tableOf("one 0 240 5 40;one 0 240 5 40;begin 2;");
        for (int i = 0; i < 12; i++) {
            x.book(1);
        }
        due("promise 16: of a full BOOK, 6 ROUNDS", x.adopt(), 6);
        due("promise 16: it becomes BEST's", x.count(2), 6);
        for (int i = 0; i < 6; i++) {
            due("promise 16: BEST's buyer of ROUND " + i, x.round(BOOK, 0, i, 1), i < 3 ? 0 : 1);
        }
        due("promise 16: it goes on behind it", x.book(0), 7);
        due("promise 16: nobody, 0", new WhoseRound().adopt(), 0);
        x.set(0, 1, 1);
        x.set(1, 1, 1);
        due("promise 16: of fewer ROUNDS", x.adopt(), 1);
        due("promise 16: fewer are told", x.count(2), 1);
    }

    private static void adoptRefused() {
        WhoseRound x = Check.tableOf("one 0 240 5 39;one 0 240 5 39;begin 2;");
        x.book(1);
        x.book(1);
        due("promise 16: STATE, 7 ROUNDS", x.adopt(), STATE);
        due("promise 16: STATE changes nothing", x.count(2), 2);
        due("promise 16: STATE, the BOOK stays", x.round(BOOK, 0, 1, 1), 1);
        x.set(0, 3, 60);
        x.set(0, 6, 1);
        x.set(1, 3, 60);
        x.set(1, 6, 1);
        due("promise 16: NONE, nobody could buy", x.adopt(), NONE);
        due("promise 16: NONE changes nothing", x.count(2), 2);
        x.set(0, 3, 1);
        x.set(1, 0, 1);
        x.set(1, 3, 1);
        x.set(1, 6, 0);
        due("promise 16: STATE ahead of NONE", x.adopt(), STATE);
    }

    // ---- promise 17

    /** The greatest GAIN by coming at another MINUTE, and the MINUTE. */
    private static void late(String call, WhoseRound x, int p, int rule, int gain, int minute) {
        int comes = x.one(p, 0);
        due("promise 17: " + call + ", GAIN", x.late(p, rule, 0, 0), gain);
        due("promise 17: " + call + ", the MINUTE", x.late(p, rule, 0, 1), minute);
        due("promise 17: " + call + ", all stays", x.one(p, 0), comes);
    }

    private static void lateFromMinuteZero() {
        WhoseRound early = Check.tableOf("one 50 60 5 99;one 50 60 9 99;");
        late("0 is looked at", early, 0, TURN, 9, 0);
        WhoseRound zero = Check.tableOf("one 0 2 5 99;one 0 2 9 99;");
        late("0 is as it is, and best for the other", zero, 1, TURN, 0, 0);
        // At 0 the poor one waits. Who buys for both at 0 does so again at 99, who comes later does it once.
        late("0 is worse", Check.tableOf("one 1 100 5 99;one 0 100 9 99 poor;begin 2;"), 0, TURN, 0, 1);
    }

    private static void lateAheadOfGoes() {
        WhoseRound last = Check.tableOf("one 0 2 5 99;one 0 2 9 99;");
        late("the last MINUTE ahead of GOES", last, 0, TURN, 9, 1);
        WhoseRound gone = Check.tableOf("one 0 1 5 99;one 0 240 9 99;");
        late("not in the MINUTE one GOES", gone, 0, TURN, 0, 0);
        WhoseRound end = Check.tableOf("one 0 240 5 99;one 0 240 9 99 poor;begin 2;");
        // The poor one can not buy till 0 comes, who buys for both as often as there is time.
        due("promise 17: as it is, three ROUNDS", end.of(TURN, 0, 0, 4), 27);
        late("one ROUND for both from 141 on", end, 0, TURN, 18, 141);
    }

    private static void lateOfSeveral() {
        WhoseRound x = Check.tableOf("one 0 240 5 99;one 0 240 5 99;");
        late("of several the least", x, 0, TURN, 5, 1);
        x.set(0, 0, 3);
        late("of several the least, from 3", x, 0, TURN, 0, 3);
        // Ahead of 5 one buys the own glass and the other's, from 6 on the own one alone.
        late("of several the least, ahead", Check.tableOf("one 5 9 5 99;one 5 9 9 99;"), 0, OWE, 9, 6);
    }

    private static void lateNoGain() {
        late("0 at least, as it is", Check.tableOf("one 9 240 5 99;"), 0, TURN, 0, 9);
        late("OWN, as it is", Check.tableOf("one 7 9 5 99;one 0 9 5 99;"), 0, OWN, 0, 7);
        late("0 at least, though one would lose", Check.tableOf("one 5 9 9 99;one 5 9 5 99;"), 1, TURN, 0, 5);
        late("the last MINUTE, as it is", Check.tableOf("one 239 240 5 9;"), 0, TURN, 0, 239);
    }

    private static void lateBad() {
        WhoseRound x = Check.tableOf(TWO);
        for (int p : new int[] {2, 8, MAX, -1, MIN}) {
            due("promise 17: BAD, no ONE " + p, x.late(p, TURN, 0, 0), BAD);
        }
        for (int rule : new int[] {7, MAX, -1, MIN}) {
            due("promise 17: BAD, RULE " + rule, x.late(0, rule, 0, 0), BAD);
        }
        for (int what : new int[] {2, MAX, -1, MIN}) {
            due("promise 17: BAD, what " + what, x.late(0, TURN, 0, what), BAD);
        }
        due("promise 17: BAD, nobody", new WhoseRound().late(0, TURN, 0, 0), BAD);
    }

    // ---- promise 18

    private static void slow(String call, WhoseRound x, int p, int rule, int gain, int lasts) {
        int was = x.one(p, 3);
        due("promise 18: " + call + ", GAIN", x.slow(p, rule, 0, 0), gain);
        due("promise 18: " + call + ", how long", x.slow(p, rule, 0, 1), lasts);
        due("promise 18: " + call + ", all stays", x.one(p, 3), was);
    }

    private static void slowFromOne() {
        // At 0 the first buys 14; only a glass of 1 is EMPTY at 1, which the other buys.
        slow("1 is looked at", Check.tableOf("one 0 2 5 50;one 0 2 9 50;"), 0, TURN, 5, 1);
        slow("1 is as it is", Check.tableOf("one 0 2 5 1;one 0 2 9 50;"), 0, TURN, 0, 1);
    }

    private static void slowToNinetyNine() {
        // The first buys for both whenever EMPTY: at 0, and at 98 but for a glass of 99.
        WhoseRound x = Check.tableOf("one 0 99 5 98;one 0 99 9 1 poor;begin 2;");
        slow("99 is looked at", x, 0, TURN, 9, 99);
        x.set(0, 1, 100);
        x.set(1, 1, 100);
        slow("100 is not", x, 0, TURN, 0, 98);
        x.set(0, 3, 99);
        slow("99 is as it is", x, 0, TURN, 0, 99);
    }

    private static void slowOfSeveral() {
        WhoseRound x = Check.tableOf("one 0 60 5 20;one 0 60 9 1 poor;begin 2;");
        // Three ROUNDS for both by 20, two by 30, one by 60 or more.
        slow("of several the least", x, 0, TURN, 18, 60);
        x.set(0, 3, 60);
        slow("no more, as it is", x, 0, TURN, 0, 60);
        x.set(0, 3, 61);
        slow("no more, as it is though not the least", x, 0, TURN, 0, 61);
    }

    private static void slowNoGain() {
        slow("0 at least, as it is", Check.tableOf("one 9 240 5 77;"), 0, TURN, 0, 77);
        slow("OWN, as it is", Check.tableOf("one 7 9 5 3;one 0 9 5 99;"), 0, OWN, 0, 3);
    }

    private static void slowBad() {
        WhoseRound x = Check.tableOf(TWO);
        for (int p : new int[] {2, 8, MAX, -1, MIN}) {
            due("promise 18: BAD, no ONE " + p, x.slow(p, TURN, 0, 0), BAD);
        }
        for (int rule : new int[] {7, MAX, -1, MIN}) {
            due("promise 18: BAD, RULE " + rule, x.slow(0, rule, 0, 0), BAD);
        }
        for (int what : new int[] {2, MAX, -1, MIN}) {
            due("promise 18: BAD, what " + what, x.slow(0, TURN, 0, what), BAD);
        }
        due("promise 18: BAD, nobody", new WhoseRound().slow(0, TURN, 0, 0), BAD);
    }

    // ---- promise 19

    private static void sureOfSeveral() {
        WhoseRound alone = Check.tableOf("one 0 240 5 60;");
        due("promise 19: of several the least", alone.sure(0, 0), TURN);
        due("promise 19: that", alone.sure(0, 1), 0);
        // One buys for the other by any RULE but OWN, more often the faster the glass is EMPTY.
        WhoseRound x = Check.tableOf("one 0 60 5 20;one 0 60 9 1 poor;begin 2;");
        for (int rule = 0; rule < 6; rule++) {
            due("promise 19: one gains by RULE " + rule, x.slow(0, rule, 0, 0), 18);
        }
        due("promise 19: by OWN nobody gains", x.sure(0, 0), OWN);
        due("promise 19: that is 0", x.sure(0, 1), 0);
        due("promise 19: all stays", x.one(0, 3) * 100 + x.one(1, 3), 2001);
        // Only a glass of 100 would be a GAIN: at 99 both are EMPTY at the latest.
        WhoseRound bound = Check.tableOf("one 0 100 5 98;one 0 100 9 1 poor;begin 2;");
        due("promise 19: as told, up to 99", bound.sure(0, 0), TURN);
        // Only a glass of 99 is one: at 98 both are EMPTY.
        bound.set(0, 1, 99);
        bound.set(1, 1, 99);
        due("promise 19: as told, 99 too", bound.sure(0, 0), OWN);
        WhoseRound last = Check.tableOf("one 0 1 5 9;one 0 1 5 9;");
        due("promise 19: of several the least, of two", last.sure(0, 0), TURN);
    }

    private static void sureBad() {
        WhoseRound x = Check.tableOf("one 0 9 5 9;");
        for (int what : new int[] {2, 3, MAX, -1, MIN}) {
            due("promise 19: BAD, what " + what, x.sure(0, what), BAD);
            due("promise 19: BAD ahead of STATE", new WhoseRound().sure(0, what), BAD);
        }
        due("promise 19: STATE, nobody", new WhoseRound().sure(0, 0), STATE);
        due("promise 19: STATE, nobody, that", new WhoseRound().sure(0, 1), STATE);
        due("promise 19: any seed", x.sure(MIN, 1), 0);
    }
}
