import java.util.ArrayList;
import java.util.List;
import java.util.function.ToLongFunction;

/**
 * "What is refused changes nothing (but THE TAPE, as told)", and what is asked changes nothing: each call is made of an
 * object that has something of everything; all that may be seen of it then is as of one of which it was not made.
 */
public final class RefusedTest {
    private static final int MIN = Integer.MIN_VALUE, MAX = Integer.MAX_VALUE;
    private static final int BAD = WhoseRound.BAD, STATE = WhoseRound.STATE, FULL = WhoseRound.FULL;
    private static final int NONE = WhoseRound.NONE;
    private static final int BAD_PENCE = -1000000;
    private static final int[] WRONG = {-1, 100, MIN, MAX};

    /** Which object a call is made of. */
    private static final int RICH = 0, FULL_OF_ALL = 1, NOBODY = 2, SEVEN_ROUNDS = 3, ALL_POOR = 4, NO_PARTS = 5;

    private RefusedTest() {
    }

    public static void main(String[] args) {
        text();
        evenings();
        told();
        gains();
        money();
        imagesAndSheets();
        reads();
        tapeByFault();
        asked();
        askedOfNobody();
        Check.finish();
    }

    // ---- the objects

    private static WhoseRound make(int which) {
        WhoseRound x = rich();
        switch (which) {
            case FULL_OF_ALL: fill(x); break;
            case NOBODY: x.end(0); x.table(); break;
            case SEVEN_ROUNDS: x.set(0, 3, 34); x.set(1, 3, 34); x.set(2, 3, 34); break;
            case ALL_POOR: x.set(0, 6, 1); x.set(2, 6, 1); break;
            case NO_PARTS: x.set(0, 5, 0); x.set(1, 5, 0); x.set(2, 5, 0); break;
            default: break;
        }
        return x;
    }

    /** Something of everything: IMAGE 0, SHEETS 0 to 2 of all lanes, SHEET 3 of nothing, FAULTS, a text on THE TAPE. */
    private static WhoseRound rich() {
        WhoseRound x = new WhoseRound();
        Check.write(x, "one 0 240 5 60 purse 30 part 2;one 0 240 7 60 poor;one 30 200 9 60;begin 2;");
        x.table();
        x.set(0, 7, -9);
        x.set(1, 7, 4);
        x.think(0, 40);
        x.think(2, 7);
        x.book(2);
        x.keep(0);
        x.set(2, 7, 6);
        x.book(0);
        x.book(2);
        for (int k = 0; k < 3; k++) {
            x.sheet(k, k, 4);
            x.lay(k, 1, 1);
            x.lay(k, 2, 2);
            x.lay(k, 3, 3);
        }
        x.read(3, 0, 0, 1);
        Check.write(x, "begin 3 !");
        x.table();
        Check.write(x, "begin 5;one");
        return x;
    }

    private static void fill(WhoseRound x) {
        for (int i = 0; i < 9; i++) {
            x.book(i % 3);
        }
        x.end(8);
        for (int i = 1; i < 40; i++) {
            x.feed(0x2020202020202020L);
        }
    }

    /** All that may be seen of an object, by some 250 calls, which spoil it. */
    private static List<Long> seen(WhoseRound x) {
        List<Long> all = new ArrayList<>();
        all.add((long) x.best(0));
        all.add((long) x.evening(0, 0, 5));
        all.add(x.lot(0, 2));
        all.add((long) x.fridays(4, 0, 3, 1));
        all.add((long) x.fault());
        all.add((long) x.torn());
        seePeople(x, all);
        for (int k = 0; k < 2; k++) {
            all.add((long) x.back(k));
            seePeople(x, all);
        }
        for (int k = 0; k < 4; k++) {
            seeSheet(x, k, all);
        }
        all.add((long) x.table());
        all.add((long) x.fault());
        all.add((long) x.count(0));
        all.add((long) x.count(6));
        return all;
    }

    private static void seePeople(WhoseRound x, List<Long> all) {
        for (int what = 0; what < 7; what++) {
            all.add((long) x.count(what));
        }
        for (int p = 0; p < 3; p++) {
            for (int what = 0; what < 8; what++) {
                all.add((long) x.one(p, what));
            }
            all.add((long) x.think(p, 1));
        }
        for (int i = 0; i < 4; i++) {
            all.add((long) x.round(5, 0, i, 1));
        }
    }

    /** What is laid there, as buyers; how many CELLS there are. */
    private static void seeSheet(WhoseRound x, int k, List<Long> all) {
        for (int i = 0; i < 5; i++) {
            x.shut();
            all.add((long) x.read(k, k, i, 1));
            all.add((long) x.round(5, 0, 0, 1));
        }
        all.add((long) x.torn());
    }

    private static void unchanged(String call, int which, ToLongFunction<WhoseRound> made) {
        WhoseRound x = make(which);
        made.applyAsLong(x);
        List<Long> now = seen(x);
        List<Long> was = seen(make(which));
        Check.holds(call + " changes nothing: was " + was + ", is " + now, now.equals(was));
    }

    private static void refused(String call, int which, long want, ToLongFunction<WhoseRound> made) {
        Check.due(call, made.applyAsLong(make(which)), want);
        unchanged(call, which, made);
    }

    // ---- what is refused

    private static void text() {
        refused("promise 2: feed, FULL", FULL_OF_ALL, FULL, x -> x.feed(0x2121212121212121L));
        for (int n : new int[] {-1, 12, 320, MIN, MAX}) {
            refused("promise 3: end " + n, RICH, BAD, x -> x.end(n));
        }
        for (int wrong : WRONG) {
            refused("promise 6: one", RICH, BAD_PENCE, x -> x.one(wrong, 0));
            refused("promise 6: one", RICH, BAD_PENCE, x -> x.one(0, wrong));
            refused("promise 7: set", RICH, BAD_PENCE, x -> x.set(wrong, 3, 1));
            refused("promise 7: set", RICH, BAD_PENCE, x -> x.set(0, wrong, 1));
        }
        int[][] wrong = {{0, 240}, {0, -1}, {1, 0}, {1, 241}, {2, 0}, {2, 100}, {3, 0}, {3, 100}, {4, -1}, {4, 1000},
            {5, -1}, {5, 10}, {6, -1}, {6, 2}, {7, -100000}, {7, 100000}, {8, 1}};
        for (int[] row : wrong) {
            refused("promise 7: set " + row[0] + " " + row[1], RICH, BAD_PENCE, x -> x.set(0, row[0], row[1]));
        }
        refused("promise 7: set COMES as GOES", RICH, BAD_PENCE, x -> x.set(2, 0, 200));
        refused("promise 7: set GOES as COMES", RICH, BAD_PENCE, x -> x.set(2, 1, 30));
        refused("promise 7: set, no ONE", RICH, BAD_PENCE, x -> x.set(3, 2, 1));
    }

    private static void evenings() {
        for (int wrong : WRONG) {
            refused("promise 8: evening", RICH, BAD, x -> x.evening(wrong, 0, 0));
            refused("promise 8: evening", RICH, BAD, x -> x.evening(0, 0, wrong));
            refused("promise 9: round", RICH, BAD, x -> x.round(wrong, 0, 0, 0));
            refused("promise 9: round", RICH, BAD, x -> x.round(0, 0, wrong, 0));
            refused("promise 9: round", RICH, BAD, x -> x.round(0, 0, 0, wrong));
            refused("promise 10: of", RICH, BAD_PENCE, x -> x.of(wrong, 0, 0, 0));
            refused("promise 10: of", RICH, BAD_PENCE, x -> x.of(0, 0, wrong, 0));
            refused("promise 10: of", RICH, BAD_PENCE, x -> x.of(0, 0, 0, wrong));
            refused("promise 11: fairest", RICH, BAD, x -> x.fairest(0, wrong));
        }
        refused("promise 11: fairest, nobody", NOBODY, STATE, x -> x.fairest(0, 0));
    }

    private static void told() {
        for (int wrong : WRONG) {
            refused("promise 12: best", RICH, BAD, x -> x.best(wrong));
            refused("promise 13: book", RICH, BAD, x -> x.book(wrong));
            refused("promise 15: judge", RICH, BAD, x -> x.judge(wrong, 0, 0));
            refused("promise 15: judge", RICH, BAD, x -> x.judge(0, 0, wrong));
        }
        refused("promise 12: best, no such ROUND", RICH, BAD, x -> x.best(15));
        refused("promise 12: best, 7 ROUNDS", SEVEN_ROUNDS, STATE, x -> x.best(0));
        refused("promise 12: best, nobody could buy", ALL_POOR, NONE, x -> x.best(0));
        refused("promise 13: book, no ONE", RICH, BAD, x -> x.book(3));
        refused("promise 13: book, FULL", FULL_OF_ALL, FULL, x -> x.book(1));
        refused("promise 15: judge, NONE", NOBODY, NONE, x -> x.judge(0, 0, 0));
        refused("promise 16: adopt, 7 ROUNDS", SEVEN_ROUNDS, STATE, x -> x.adopt());
        refused("promise 16: adopt, nobody could buy", ALL_POOR, NONE, x -> x.adopt());
    }

    private static void gains() {
        for (int wrong : WRONG) {
            refused("promise 17: late", RICH, BAD, x -> x.late(wrong, 0, 0, 0));
            refused("promise 17: late", RICH, BAD, x -> x.late(0, wrong, 0, 0));
            refused("promise 17: late", RICH, BAD, x -> x.late(0, 0, 0, wrong));
            refused("promise 18: slow", RICH, BAD, x -> x.slow(wrong, 0, 0, 0));
            refused("promise 18: slow", RICH, BAD, x -> x.slow(0, wrong, 0, 0));
            refused("promise 18: slow", RICH, BAD, x -> x.slow(0, 0, 0, wrong));
            refused("promise 19: sure", RICH, BAD, x -> x.sure(0, wrong));
        }
        refused("promise 19: sure, nobody", NOBODY, STATE, x -> x.sure(0, 0));
    }

    private static void money() {
        for (int wrong : WRONG) {
            refused("promise 20: right", RICH, BAD, x -> x.right(wrong, 0, 0, 0));
            refused("promise 20: right", RICH, BAD, x -> x.right(0, 0, wrong, 0));
            refused("promise 20: right", RICH, BAD, x -> x.right(0, 0, 0, wrong));
            refused("promise 21: lot", RICH, BAD, x -> x.lot(wrong, 0));
            refused("promise 21: lot", RICH, BAD, x -> x.lot(0, wrong));
            refused("promise 22: fridays", RICH, BAD, x -> x.fridays(wrong, 0, 1, 0));
            refused("promise 22: fridays", RICH, BAD, x -> x.fridays(0, 0, wrong, 0));
            refused("promise 22: fridays", RICH, BAD, x -> x.fridays(0, 0, 1, wrong));
            refused("promise 23: goes", RICH, BAD, x -> x.goes(wrong, 0));
            refused("promise 24: coins", RICH, BAD, x -> x.coins(wrong));
            refused("promise 25: think", RICH, BAD, x -> x.think(wrong, 5));
            refused("promise 26: thought", RICH, BAD_PENCE, x -> x.thought(wrong, 0, 0));
            refused("promise 26: thought", RICH, BAD_PENCE, x -> x.thought(0, 0, wrong));
        }
        refused("promise 20: right, no parts", NO_PARTS, STATE, x -> x.right(0, 0, 0, 0));
        refused("promise 21: lot, nobody could buy", ALL_POOR, NONE, x -> x.lot(0, 0));
        refused("promise 24: coins, not even", RICH, STATE, x -> x.coins(0));
        refused("promise 25: think above", RICH, BAD, x -> x.think(0, 10000));
        refused("promise 25: think below", RICH, BAD, x -> x.think(0, -1));
        refused("promise 25: think, no ONE", RICH, BAD, x -> x.think(3, 1));
    }

    private static void imagesAndSheets() {
        for (int wrong : WRONG) {
            refused("promise 27: keep", RICH, BAD, x -> x.keep(wrong));
            refused("promise 28: back", RICH, BAD, x -> x.back(wrong));
            refused("promise 29: sheet", RICH, BAD, x -> x.sheet(wrong, 0, 1));
            refused("promise 29: sheet", RICH, BAD, x -> x.sheet(0, wrong, 1));
            refused("promise 29: sheet", RICH, wrong < 0 ? -14 : BAD, x -> x.sheet(0, 0, wrong));
            refused("promise 30: lay", RICH, BAD, x -> x.lay(wrong, 0, 1));
            refused("promise 30: lay", RICH, -12, x -> x.lay(0, wrong, 1));
            refused("promise 33: count", RICH, BAD, x -> x.count(wrong));
        }
        refused("promise 28: back, there is none", RICH, STATE, x -> x.back(1));
        refused("promise 30: lay, NULL", RICH, -11, x -> x.lay(3, 0, 1));
        refused("promise 30: lay, INDEX", RICH, -12, x -> x.lay(1, 4, 1));
    }

    private static void reads() {
        for (int wrong : WRONG) {
            refused("promise 31: read", RICH, BAD, x -> x.read(wrong, 0, 0, 1));
            refused("promise 31: read", RICH, BAD, x -> x.read(0, wrong, 0, 1));
            refused("promise 31: read", RICH, BAD, x -> x.read(0, 0, 0, wrong));
        }
        refused("promise 31: read, no ONE", RICH, -22, x -> x.read(1, 1, 1, 3));
        refused("promise 31: read, FULL", FULL_OF_ALL, FULL, x -> x.read(1, 1, 0, 1));
        refused("promise 31: read, FULL behind some", RICH, -23, x -> x.read(0, 0, 0, 12));
        // What the machine finds is no refusal of the call: the FAULT is told. Here it is as it was: NULL.
        refused("promise 31: read, NULL", RICH, 0, x -> x.read(3, 0, 0, 1));
    }

    /** A table that has a FAULT: THE TAPE is empty, and the FAULT told; all else is as it was. */
    private static void tapeByFault() {
        WhoseRound x = rich(), y = rich();
        Check.due("promise 4: a FAULT", x.table(), -10 - 11);
        Check.due("promise 4: THE TAPE alone", x.count(4), 0);
        Check.due("promise 5: its FAULT", x.fault(), 2);
        y.end(0);
        List<Long> now = seen(x), was = seen(y);
        Check.due("promise 5: the FAULT ahead", was.get(4), 1);
        now.set(4, was.get(4));
        Check.holds("promise 4: a FAULT changes THE TAPE alone: was " + was + ", is " + now, now.equals(was));
    }

    // ---- what is asked

    private static void asked() {
        for (int i = 0; i < 7; i++) {
            int rule = i;
            unchanged("promise 8: evening", RICH, x -> x.evening(rule, 5, 0));
            unchanged("promise 9: round", RICH, x -> x.round(rule, 5, 0, 0));
            unchanged("promise 10: of", RICH, x -> x.of(rule, 5, 1, 0));
            unchanged("promise 15: judge", RICH, x -> x.judge(rule, 5, 0));
            unchanged("promise 17: late", RICH, x -> x.late(2, rule, 5, 0));
            unchanged("promise 18: slow", RICH, x -> x.slow(2, rule, 5, 0));
            unchanged("promise 20: right", RICH, x -> x.right(rule, 5, 0, 0));
            unchanged("promise 22: fridays", RICH, x -> x.fridays(rule, 5, 9, 0));
            unchanged("promise 26: thought", RICH, x -> x.thought(rule, 5, 0));
            unchanged("promise 33: count", RICH, x -> x.count(rule));
        }
        unchanged("promise 5: fault", RICH, x -> x.fault());
        unchanged("promise 6: one", RICH, x -> x.one(1, 6));
        unchanged("promise 11: fairest", RICH, x -> x.fairest(5, 3));
        unchanged("promise 12: best", RICH, x -> x.best(10));
        unchanged("promise 19: sure", RICH, x -> x.sure(5, 0));
        unchanged("promise 21: lot", RICH, x -> x.lot(0, 2));
        unchanged("promise 24: coins", FULL_OF_ALL, x -> x.set(2, 7, 5) + x.coins(0) + x.set(2, 7, 6));
        unchanged("promise 32: torn", RICH, x -> x.torn());
    }

    private static void askedOfNobody() {
        unchanged("promise 8: evening", NOBODY, x -> x.evening(3, 5, 6));
        unchanged("promise 12: best", NOBODY, x -> x.best(0));
        unchanged("promise 22: fridays", NOBODY, x -> x.fridays(0, 5, 60, 0));
        unchanged("promise 23: goes", NOBODY, x -> x.goes(0, 5));
        unchanged("promise 24: coins", NOBODY, x -> x.coins(1));
        unchanged("promise 16: adopt, but the BOOK", NOBODY, x -> x.adopt());
        unchanged("promise 31: read, none", NOBODY, x -> x.read(3, 0, 0, 1));
    }
}
