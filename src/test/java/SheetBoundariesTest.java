/** Promises 27 to 33, images and sheets: each sentence that names a boundary, by a test of its own. */
public final class SheetBoundariesTest {
    private static final int MIN = Integer.MIN_VALUE, MAX = Integer.MAX_VALUE;
    private static final int BAD = WhoseRound.BAD, STATE = WhoseRound.STATE, NONE = WhoseRound.NONE;
    private static final int FULL = WhoseRound.FULL;
    private static final int BOOK = 5;
    private static final int NULL = 1, INDEX = 2, CAST = 3;

    /** Twelve ROUNDS and more, so that all of the BOOK is seen. */
    private static final String THREE = "one 0 240 1 17;one 0 240 1 17;one 0 240 1 17;";

    private SheetBoundariesTest() {
    }

    public static void main(String[] args) {
        keepTwo();
        backNone();
        backOfAll();
        backOfNobody();
        backOfEight();
        backLeavesTheRest();
        sheetBounds();
        sheetIsNew();
        layBounds();
        layLowestBits();
        readNone();
        readSoMany();
        readNull();
        readCast();
        readIndex();
        readNoOne();
        readFull();
        readFirstMet();
        readBad();
        tornIsOfTheLatest();
        countNothing();
        countMost();
        countBad();
        Check.finish();
    }

    private static void due(String call, long got, long want) {
        Check.due(call, got, want);
    }

    private static void told(String call, WhoseRound x, int... buyers) {
        due(call + ": how many are told", x.count(2), buyers.length);
        for (int i = 0; i < buyers.length; i++) {
            due(call + ": told for ROUND " + i, x.round(BOOK, 0, i, 1), buyers[i]);
        }
    }

    /** Three PEOPLE, and SHEET 1 of a lane with CELLS. */
    private static WhoseRound sheetOf(int lane, int... cells) {
        WhoseRound x = Check.tableOf(THREE);
        due("promise 29: a SHEET of " + cells.length, x.sheet(1, lane, cells.length), 1);
        for (int i = 0; i < cells.length; i++) {
            due("promise 30: CELL " + i, x.lay(1, i, cells[i]), 1);
        }
        return x;
    }

    // ---- promises 27, 28

    private static void keepTwo() {
        WhoseRound x = new WhoseRound();
        for (int k = 0; k < 2; k++) {
            due("promise 27: there was none", x.keep(k), 0);
            due("promise 27: there was one", x.keep(k), 1);
            due("promise 27: there was one, still", x.keep(k), 1);
            due("promise 27: so many IMAGES", x.count(3), k + 1);
        }
        WhoseRound second = new WhoseRound();
        due("promise 27: the second alone", second.keep(1), 0);
        due("promise 27: the first is none", second.back(0), STATE);
        for (int k : new int[] {2, 3, MAX, -1, MIN}) {
            due("promise 27: BAD " + k, x.keep(k), BAD);
            due("promise 27: BAD, no IMAGE more", x.count(3), 2);
        }
    }

    private static void backNone() {
        WhoseRound x = Check.tableOf(THREE);
        for (int k = 0; k < 2; k++) {
            due("promise 28: STATE, there is none", x.back(k), STATE);
            due("promise 28: STATE changes nothing", x.count(0), 3);
        }
        for (int k : new int[] {2, 3, MAX, -1, MIN}) {
            due("promise 28: BAD " + k, x.back(k), BAD);
            due("promise 28: BAD changes nothing", x.count(0), 3);
        }
        x.keep(0);
        due("promise 28: the other is none", x.back(1), STATE);
        due("promise 28: this is one", x.back(0), 3);
    }

    private static void backOfAll() {
        WhoseRound x = Check.tableOf("one 1 239 5 61 purse 70 part 3 poor;one 0 240 1 17;begin 2;");
        x.set(0, 7, -4);
        x.think(0, 55);
        x.think(1, 66);
        x.book(1);
        x.book(0);
        x.keep(1);
        int[] other = {2, 200, 6, 62, 71, 4, 0, 9};
        for (int what = 0; what < 8; what++) {
            x.set(0, what, other[what]);
        }
        x.think(0, 1);
        x.think(1, 2);
        x.shut();
        x.book(0);
        due("promise 28: how many PEOPLE", x.back(1), 2);
        int[] want = {1, 239, 5, 61, 70, 3, 1, -4};
        for (int what = 0; what < 8; what++) {
            due("promise 28: as the IMAGE, " + what, x.one(0, what), want[what]);
            x.set(0, what, other[what]);
        }
        due("promise 28: THOUGHT", x.think(0, 3), 55);
        due("promise 28: THOUGHT of another", x.think(1, 4), 66);
        due("promise 28: begin", x.count(6), 2);
        due("promise 28: the BOOK, how many", x.shut(), 2);
        due("promise 28: again, as it was", x.back(1), 2);
        for (int what = 0; what < 8; what++) {
            due("promise 28: the IMAGE stays as it was, " + what, x.one(0, what), want[what]);
        }
        due("promise 28: the IMAGE's THOUGHT stays", x.think(1, 0), 66);
        x.set(0, 6, 0);
        x.set(0, 0, 0);
        told("promise 28: the IMAGE's BOOK stays", x, 1, 0);
    }

    private static void backOfNobody() {
        WhoseRound x = new WhoseRound();
        x.keep(0);
        Check.write(x, THREE + "begin 7;");
        x.table();
        x.book(2);
        x.keep(1);
        due("promise 28: of nobody", x.back(0), 0);
        due("promise 28: nobody then", x.count(0), 0);
        due("promise 28: begin as it was", x.count(6), 1);
        due("promise 28: no BOOK", x.count(2), 0);
        due("promise 28: of three", x.back(1), 3);
        due("promise 28: their begin", x.count(6), 7);
        due("promise 28: their BOOK", x.count(2), 1);
        due("promise 27: kept anew", x.keep(0), 1);
        due("promise 28: what is kept anew", x.back(0), 3);
    }

    private static void backOfEight() {
        WhoseRound x = Check.tableOf("one 0 240 1 17;".repeat(8) + "begin 8;");
        for (int i = 0; i < 12; i++) {
            x.book(7 - i % 8);
        }
        x.think(7, 9999);
        x.set(7, 7, 99999);
        x.keep(0);
        x.think(7, 5);
        x.shut();
        for (int i = 0; i < 12; i++) {
            x.book(6);
        }
        Check.write(x, "one 0 9 1 9;");
        x.table();
        due("promise 28: eight", x.back(0), 8);
        due("promise 28: the last's CARRIED", x.one(7, 7), 99999);
        due("promise 28: the last's THOUGHT", x.think(7, 0), 9999);
        due("promise 28: begin 8", x.count(6), 8);
        told("promise 28: a full BOOK", x, 7, 6, 5, 4, 3, 2, 1, 0, 7, 6, 5, 4);
        due("promise 28: which is full", x.book(0), FULL);
    }

    private static void backLeavesTheRest() {
        WhoseRound x = Check.tableOf(THREE);
        x.keep(0);
        x.sheet(0, 0, 9);
        x.read(3, 0, 0, 1);
        Check.write(x, "!");
        x.table();
        x.feed(0);
        x.back(0);
        due("promise 28: SHEETS stay", x.count(5), 9);
        due("promise 28: THE TAPE stays", x.count(4), 8);
        due("promise 28: the FAULTS stay", x.fault() * 10 + x.torn(), 11);
        due("promise 28: IMAGES stay", x.count(3), 1);
    }

    // ---- promise 29

    private static void sheetBounds() {
        WhoseRound x = new WhoseRound();
        for (int k : new int[] {4, 5, MAX, -1, MIN}) {
            due("promise 29: BAD, k " + k, x.sheet(k, 0, 1), BAD);
            due("promise 29: BAD ahead of SIZE, k " + k, x.sheet(k, 0, -1), BAD);
        }
        for (int lane : new int[] {3, 4, MAX, -1, MIN}) {
            due("promise 29: BAD, lane " + lane, x.sheet(0, lane, 1), BAD);
            due("promise 29: BAD ahead of SIZE, lane " + lane, x.sheet(0, lane, MIN), BAD);
        }
        for (int n : new int[] {41, 42, MAX}) {
            due("promise 29: BAD, n " + n, x.sheet(0, 0, n), BAD);
        }
        for (int n : new int[] {-1, -2, MIN}) {
            due("promise 29: SIZE, n " + n, x.sheet(0, 0, n), -14);
        }
        due("promise 29: what is refused is no SHEET", x.count(5), NONE);
        for (int k = 0; k < 4; k++) {
            for (int lane = 0; lane < 3; lane++) {
                for (int n : new int[] {0, 1, 39, 40}) {
                    due("promise 29: taken", x.sheet(k, lane, n), 1);
                    due("promise 29: the last CELL of " + n, x.lay(k, n - 1, 0), n == 0 ? -12 : 1);
                    due("promise 29: none behind it", x.lay(k, n, 0), -12);
                }
            }
        }
    }

    private static void sheetIsNew() {
        WhoseRound x = sheetOf(2, 1, 2, 1, 2, 1, 2);
        due("promise 29: refused, SIZE", x.sheet(1, 0, -1), -14);
        due("promise 29: refused, BAD", x.sheet(1, 0, 41), BAD);
        due("promise 29: refused, it stays", x.read(1, 2, 0, 6), 6);
        told("promise 29: refused, its CELLS stay", x, 1, 2, 1, 2, 1, 2);
        x.shut();
        due("promise 29: a new row", x.sheet(1, 2, 12), 1);
        due("promise 29: of CELLS 0", x.read(1, 2, 0, 12), 12);
        told("promise 29: all are 0", x, 0, 0, 0, 0, 0, 0, 0, 0, 0, 0, 0, 0);
        x.shut();
        due("promise 29: of none, in place of it", x.sheet(1, 1, 0), 1);
        due("promise 29: of none there is no CELL", x.read(1, 1, 0, 1), 0);
        due("promise 29: which is INDEX, not NULL", x.torn(), INDEX);
        due("promise 29: another SHEET is nothing still", x.count(5), NONE);
    }

    // ---- promise 30

    private static void layBounds() {
        WhoseRound x = new WhoseRound();
        for (int k : new int[] {4, 5, MAX, -1, MIN}) {
            due("promise 30: BAD, k " + k, x.lay(k, 0, 0), BAD);
        }
        for (int k = 0; k < 4; k++) {
            for (int i : new int[] {0, -1, 40, MIN, MAX}) {
                due("promise 30: NULL ahead of INDEX", x.lay(k, i, 0), -11);
            }
            x.sheet(k, k % 3, 40);
            for (int i : new int[] {40, 41, MAX, -1, MIN}) {
                due("promise 30: INDEX " + i, x.lay(k, i, 0), -12);
            }
            due("promise 30: the first CELL", x.lay(k, 0, MAX), 1);
            due("promise 30: the last CELL", x.lay(k, 39, MIN), 1);
        }
    }

    /** Whether a CELL of a lane, into which v was laid, is ONE 1. */
    private static void lowestBits(int lane, int v, boolean isOne) {
        WhoseRound x = sheetOf(lane, v);
        String call = "promise 30: " + v + " into lane " + lane;
        due(call, x.read(1, lane, 0, 1), isOne ? 1 : -20);
        if (isOne) {
            told(call, x, 1);
        }
    }

    private static void layLowestBits() {
        int[] ones = {1, 257, -255, 0x7fffff01, MIN + 1};
        int[] none = {-1, 255, 128, 3, 127, MAX, 0xff, 511};
        for (int v : ones) {
            lowestBits(0, v, true);
        }
        for (int v : none) {
            lowestBits(0, v, false);
        }
        for (int v : new int[] {1, 65537, -65535, 0x7fff0001, MIN + 1}) {
            lowestBits(1, v, true);
        }
        for (int v : new int[] {-1, 65535, 257, 32769, 3, MAX, 0x10101}) {
            lowestBits(1, v, false);
        }
        lowestBits(2, 1, true);
        for (int v : new int[] {-1, 257, 65537, 0x1000001, MIN + 1, MAX, 3}) {
            lowestBits(2, v, false);
        }
        due("promise 30: 256 is 0 as a BYTE", sheetOf(0, 256).read(1, 0, 0, 1), 1);
        due("promise 30: 65536 is 0 as a SHORT", sheetOf(1, 65536).read(1, 1, 0, 1), 1);
        due("promise 30: MIN is 0 as a SHORT", sheetOf(1, MIN).read(1, 1, 0, 1), 1);
        due("promise 30: MIN is none as an INT", sheetOf(2, MIN).read(1, 2, 0, 1), -20);
    }

    // ---- promise 31

    private static void readNone() {
        WhoseRound x = sheetOf(0, 9, 9);
        for (int f : new int[] {0, 1, 2, -1, MIN, MAX}) {
            due("promise 31: n 0 of no ONE, no INDEX", x.read(1, 0, f, 0), 0);
            due("promise 31: n 0, no FAULT", x.torn(), 0);
        }
        x.read(0, 0, 0, 1);
        due("promise 31: n 0 of another lane", x.read(1, 2, 0, 0), 0);
        due("promise 31: n 0 of another lane, no FAULT", x.torn(), 0);
        x.read(0, 0, 0, 1);
        due("promise 31: n 0 of nothing", x.read(0, 0, 0, 0), 0);
        due("promise 31: n 0 of nothing, no FAULT", x.torn(), 0);
        for (int i = 0; i < 12; i++) {
            x.book(0);
        }
        due("promise 31: n 0, a full BOOK", x.read(1, 0, 0, 0), 0);
        due("promise 31: n 0, none came", x.count(2), 12);
    }

    private static void readSoMany() {
        for (int lane = 0; lane < 3; lane++) {
            WhoseRound x = sheetOf(lane, 2, 1, 0, 2, 1, 0, 2, 1, 0, 2, 1, 0, 1);
            due("promise 31: 12 at most", x.read(1, lane, 0, 12), 12);
            due("promise 31: no FAULT", x.torn(), 0);
            told("promise 31: by order", x, 2, 1, 0, 2, 1, 0, 2, 1, 0, 2, 1, 0);
            due("promise 31: 13 is BAD", x.read(1, lane, 0, 13), BAD);
            x.shut();
            x.book(1);
            due("promise 31: from CELL f on", x.read(1, lane, 11, 2), 2);
            told("promise 31: behind the BOOK", x, 1, 0, 1);
            due("promise 31: up to a full BOOK", x.read(1, lane, 0, 9), 9);
            due("promise 31: which is full", x.book(0), FULL);
        }
        WhoseRound last = sheetOf(0, new int[40]);
        due("promise 31: the last CELL", last.read(1, 0, 39, 1), 1);
        due("promise 31: the last twelve", last.read(1, 0, 28, 11), 11);
    }

    private static void readNull() {
        WhoseRound x = sheetOf(0, 1);
        for (int lane = 0; lane < 3; lane++) {
            for (int f : new int[] {0, -1, 40, MIN, MAX}) {
                due("promise 31: NULL, none came", x.read(2, lane, f, 12), 0);
                due("promise 31: NULL ahead of CAST and INDEX", x.torn(), NULL);
            }
        }
        for (int i = 0; i < 12; i++) {
            x.book(0);
        }
        due("promise 31: NULL, a full BOOK", x.read(2, 0, 0, 1), 0);
        due("promise 31: NULL, no FULL", x.torn(), NULL);
    }

    private static void readCast() {
        for (int lane = 0; lane < 3; lane++) {
            WhoseRound x = sheetOf(lane, 1);
            for (int as = 0; as < 3; as++) {
                for (int f : new int[] {-1, 1, MIN, MAX}) {
                    due("promise 31: of another lane none came", x.read(1, as, f, 1), 0);
                    due("promise 31: CAST ahead of INDEX", x.torn(), as == lane ? INDEX : CAST);
                }
                due("promise 31: a CELL", x.read(1, as, 0, 1), as == lane ? 1 : 0);
                due("promise 31: CAST, or none", x.torn(), as == lane ? 0 : CAST);
            }
            told("promise 31: once of its own lane", x, 1);
        }
        WhoseRound none = sheetOf(1);
        due("promise 31: of a SHEET of none", none.read(1, 0, 0, 1), 0);
        due("promise 31: CAST of a SHEET of none", none.torn(), CAST);
    }

    private static void readIndex() {
        WhoseRound x = sheetOf(0, 2, 1, 2);
        due("promise 31: those ahead come", x.read(1, 0, 1, 12), 2);
        due("promise 31: INDEX", x.torn(), INDEX);
        told("promise 31: those ahead", x, 1, 2);
        due("promise 31: just all", x.read(1, 0, 0, 3), 3);
        due("promise 31: just all, no FAULT", x.torn(), 0);
        for (int f : new int[] {3, 4, 40, MAX, MAX - 5, -1, -2, MIN}) {
            due("promise 31: INDEX, f " + f, x.read(1, 0, f, 12), 0);
            due("promise 31: INDEX, f " + f, x.torn(), INDEX);
        }
        due("promise 31: none came", x.count(2), 5);
    }

    private static void readNoOne() {
        int[] cells = new int[12];
        for (int i = 0; i < 12; i++) {
            WhoseRound x = sheetOf(2, cells);
            x.lay(1, i, i % 2 == 0 ? 3 : -1);
            due("promise 31: CELL f + i is no ONE", x.read(1, 2, 0, 12), -20 - i);
            due("promise 31: none came", x.count(2), 0);
            due("promise 31: those ahead of it", x.read(1, 2, 0, i), i);
            due("promise 31: from it on", x.read(1, 2, i, 1), -20);
        }
        WhoseRound nobody = new WhoseRound();
        nobody.sheet(0, 0, 1);
        due("promise 31: nobody is a ONE", nobody.read(0, 0, 0, 1), -20);
        WhoseRound last = sheetOf(0, 2, 3, 7, 8, 127);
        due("promise 31: the last ONE", last.read(1, 0, 0, 1), 1);
        for (int i = 1; i < 5; i++) {
            due("promise 31: above", last.read(1, 0, i, 1), -20);
        }
    }

    private static void readFull() {
        for (int told = 0; told <= 12; told++) {
            WhoseRound x = sheetOf(0, new int[12]);
            for (int i = 0; i < told; i++) {
                x.book(1);
            }
            int room = 12 - told;
            if (told > 0) {
                due("promise 31: FULL, no room for one", x.read(1, 0, 0, room + 1), FULL);
                due("promise 31: FULL, none came", x.count(2), told);
            }
            due("promise 31: just room", x.read(1, 0, 0, room), room);
            due("promise 31: full then", x.count(2), 12);
        }
    }

    private static void readFirstMet() {
        WhoseRound x = sheetOf(0, 1, 1, 3);
        for (int i = 0; i < 11; i++) {
            x.book(0);
        }
        due("promise 31: FULL is met ahead of no ONE", x.read(1, 0, 0, 3), FULL);
        due("promise 31: no ONE is met ahead of no room", x.read(1, 0, 1, 2), -21);
        due("promise 31: no ONE is met ahead of INDEX", x.read(1, 0, 2, 2), -20);
        x.book(0);
        due("promise 31: one that is no ONE, and no room", x.read(1, 0, 2, 1), -20);
        due("promise 31: FULL ahead of INDEX", x.read(1, 0, 1, 12), FULL);
        due("promise 31: INDEX, and no room", x.read(1, 0, 3, 1), 0);
        due("promise 31: INDEX it is", x.torn(), INDEX);
        x.shut();
        due("promise 31: no ONE ahead of INDEX", x.read(1, 0, 0, 12), -22);
        for (int i = 0; i < 11; i++) {
            x.book(0);
        }
        x.sheet(1, 0, 1);
        due("promise 31: INDEX is met, where there would be no room", x.read(1, 0, 0, 2), 1);
        due("promise 31: INDEX it is", x.torn(), INDEX);
        due("promise 31: one came", x.count(2), 12);
    }

    private static void readBad() {
        WhoseRound x = sheetOf(0, 1, 1);
        for (int wrong : new int[] {-1, MIN, MAX, 100}) {
            due("promise 31: BAD, k " + wrong, x.read(wrong, 0, 0, 1), BAD);
            due("promise 31: BAD, lane " + wrong, x.read(1, wrong, 0, 1), BAD);
            due("promise 31: BAD, n " + wrong, x.read(1, 0, 0, wrong), BAD);
            due("promise 31: BAD of n 0, k " + wrong, x.read(wrong, 0, 0, 0), BAD);
            due("promise 31: BAD of n 0, lane " + wrong, x.read(1, wrong, 0, 0), BAD);
            due("promise 31: BAD ahead of NULL, n " + wrong, x.read(2, 0, 0, wrong), BAD);
            due("promise 31: BAD ahead of CAST, n " + wrong, x.read(1, 1, 0, wrong), BAD);
        }
        due("promise 31: BAD, k 4", x.read(4, 0, 0, 1), BAD);
        due("promise 31: BAD, lane 3", x.read(1, 3, 0, 1), BAD);
        due("promise 31: BAD, n 13", x.read(1, 0, 0, 13), BAD);
        due("promise 31: none came", x.count(2), 0);
        for (int k = 0; k < 4; k++) {
            due("promise 31: SHEET " + k, x.read(k, 0, 0, 1), k == 1 ? 1 : 0);
        }
    }

    // ---- promises 32, 33

    private static void tornIsOfTheLatest() {
        WhoseRound x = sheetOf(0, 1, 3);
        due("promise 32: none as yet", x.torn(), 0);
        int[] faults = {NULL, INDEX, CAST};
        for (int fault : faults) {
            int k = fault == NULL ? 0 : 1;
            int lane = fault == CAST ? 2 : 0;
            due("promise 32: a read", x.read(k, lane, fault == INDEX ? 2 : 0, 1), 0);
            due("promise 32: its FAULT", x.torn(), fault);
            due("promise 32: asked again", x.torn(), fault);
            due("promise 32: one that is refused, no ONE", x.read(1, 0, 1, 1), -20);
            due("promise 32: leaves it", x.torn(), fault);
            due("promise 32: one that is refused, BAD", x.read(1, 0, 0, 13), BAD);
            due("promise 32: leaves it", x.torn(), fault);
            while (x.book(0) != FULL) {
                due("promise 32: a BOOK that grows leaves it", x.torn(), fault);
            }
            due("promise 32: one that is refused, FULL", x.read(1, 0, 0, 1), FULL);
            due("promise 32: leaves it", x.torn(), fault);
            x.shut();
            x.lay(3, 0, 0);
            x.lay(1, 9, 0);
            x.sheet(2, 0, -1);
            due("promise 32: what other calls refuse leaves it", x.torn(), fault);
            due("promise 32: one without a FAULT", x.read(1, 0, 0, 1), 1);
            due("promise 32: none", x.torn(), 0);
        }
        due("promise 32: one came, then INDEX", sheetOf(0, 1).read(1, 0, 0, 2), 1);
    }

    private static void countNothing() {
        WhoseRound x = new WhoseRound();
        due("promise 33: NONE, nothing", x.count(5), NONE);
        x.sheet(1, 0, 5);
        due("promise 33: NONE, of SHEET 0", x.count(5), NONE);
        x.sheet(0, 0, 0);
        due("promise 33: 0 CELLS are not nothing", x.count(5), 0);
        x.sheet(0, 2, 1);
        due("promise 33: 1 CELL", x.count(5), 1);
    }

    private static void countMost() {
        WhoseRound x = Check.tableOf("one 0 9 1 9 poor;".repeat(8) + "begin 8;");
        for (int i = 0; i < 12; i++) {
            x.book(i % 8);
        }
        x.keep(0);
        x.keep(1);
        x.sheet(0, 1, 40);
        for (int i = 0; i < 41; i++) {
            x.feed(i);
        }
        int[] want = {8, 8, 12, 2, 320, 40, 8};
        for (int what = 0; what < 7; what++) {
            due("promise 33: the most of " + what, x.count(what), want[what]);
        }
        x.set(3, 6, 0);
        due("promise 33: one is not poor", x.count(1), 7);
    }

    private static void countBad() {
        WhoseRound x = Check.tableOf(THREE);
        for (int what : new int[] {7, 8, MAX, -1, MIN}) {
            due("promise 33: BAD " + what, x.count(what), BAD);
        }
    }
}
