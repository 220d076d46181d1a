/** Each promise by answers figured out by hand: ordinary calls, the edges that the document names, wrong calls. */
public final class PromisesTest {
    private static final int MIN = Integer.MIN_VALUE, MAX = Integer.MAX_VALUE;
    private static final int BAD_PENCE = -1000000;
    private static final int TURN = 0, OWE = 1, FIRST = 2, LOT = 3, LONGEST = 4, BOOK = 5, OWN = 6;

    /** Four ROUNDS, at 0, 60, 120, 180, of 12 pence each. */
    private static final String TWO = "one 0 240 5 60;one 0 240 7 60;begin 2;";

    private PromisesTest() {
    }

    public static void main(String[] args) {
        newObject();
        feed();
        end();
        table();
        faults();
        one();
        set();
        evening();
        eveningEdges();
        eight();
        round();
        rules();
        bookAndOwn();
        of();
        fairest();
        best();
        bestEdges();
        book();
        judge();
        adopt();
        late();
        slow();
        sure();
        right();
        lot();
        fridays();
        goes();
        coins();
        think();
        thought();
        images();
        sheets();
        lay();
        read();
        count();
        Check.finish();
    }

    private static void due(String call, long got, long want) {
        Check.due(call, got, want);
    }

    private static void buyers(String call, WhoseRound x, int rule, int seed, int... want) {
        for (int i = 0; i < want.length; i++) {
            due(call + ", buyer of ROUND " + i, x.round(rule, seed, i, 1), want[i]);
        }
    }

    private static void minutes(String call, WhoseRound x, int rule, int... want) {
        due(call + ", ROUNDS", x.evening(rule, 0, 0), want.length);
        for (int i = 0; i < want.length; i++) {
            due(call + ", MINUTE of ROUND " + i, x.round(rule, 0, i, 0), want[i]);
        }
    }

    // ---- promises 1 to 7

    private static void newObject() {
        WhoseRound x = new WhoseRound();
        int[] counts = {0, 0, 0, 0, 0, WhoseRound.NONE, 1};
        for (int what = 0; what < counts.length; what++) {
            due("new: count " + what, x.count(what), counts[what]);
        }
        due("new: fault", x.fault(), 0);
        due("new: torn", x.torn(), 0);
        due("new: one", x.one(0, 0), BAD_PENCE);
        due("new: back", x.back(0), WhoseRound.STATE);
        for (int k = 0; k < 4; k++) {
            due("new: lay", x.lay(k, 0, 0), -11);
        }
        due("constants", WhoseRound.BAD * 1000 + WhoseRound.STATE * 100 + WhoseRound.FULL * 10 + WhoseRound.NONE, -1234);
    }

    private static void feed() {
        WhoseRound x = new WhoseRound();
        for (int i = 1; i <= 39; i++) {
            due("feed", x.feed(0x2020202020202020L), 8 * i);
        }
        due("end", x.end(306), 312);
        due("feed", x.feed(0x626567696e20383bL), 314); // begin 8;
        due("feed: too much", x.feed(0x2121212121212121L), WhoseRound.FULL);
        due("feed: refused, so nothing came", x.count(4), 314);
        due("end", x.end(313), 314);
        due("feed: still too much", x.feed(0), WhoseRound.FULL);
        x.end(312);
        due("feed: just enough", x.feed(0x383b202020202020L), 320);
        due("feed: full", x.feed(0), WhoseRound.FULL);
        due("feed: all is read", x.table(), 1);
        due("feed: begin 8;", x.count(6), 8);
    }

    private static void end() {
        WhoseRound x = new WhoseRound();
        due("end: empty", x.end(0), 0);
        due("end: more than there is", x.end(1), WhoseRound.BAD);
        x.feed(0);
        due("end: below 0", x.end(-1), WhoseRound.BAD);
        due("end: above", x.end(9), WhoseRound.BAD);
        due("end: all", x.end(8), 8);
        due("end: some", x.end(3), 8);
        due("end: again", x.end(0), 3);
        due("end: far below", x.end(MIN), WhoseRound.BAD);
        x.feed(0x626567696e6e6e6eL); // beginnnn
        x.end(5);
        due("end: a NAME is cut", x.table(), -10 - 5);
        x.feed(0x626567696e203131L); // begin 11
        x.end(7);
        due("end: a NUMBER is cut", x.table(), -10 - 7);
    }

    private static void table() {
        WhoseRound x = Check.tableOf(" one 3 240 99 1poor part9purse 0 ; begin8;one0 1 1 99; ");
        due("table: how many", x.count(0), 2);
        due("table: begin", x.count(6), 8);
        int[] first = {3, 240, 99, 1, 0, 9, 1, 0};
        int[] second = {0, 1, 1, 99, 999, 1, 0, 0};
        for (int what = 0; what < 8; what++) {
            due("table: first one", x.one(0, what), first[what]);
            due("table: second one", x.one(1, what), second[what]);
        }
        x.book(1);
        x.set(1, 7, 5);
        x.think(1, 7);
        x.keep(0);
        x.sheet(0, 0, 3);
        Check.write(x, "one 0 1 1 1;one 0 1 1 1;one 0 1 1 1 rich;");
        due("table: a FAULT", x.table(), -10 - 36);
        due("table: a FAULT empties THE TAPE", x.count(4), 0);
        due("table: a FAULT leaves what was told", x.count(0) * 100 + x.count(6) * 10 + x.count(2), 281);
        Check.write(x, "one 0 1 1 1;one 0 1 1 1;");
        due("table: lines", x.table(), 2);
        due("table: THE TAPE is empty", x.count(4), 0);
        due("table: begin as at first", x.count(6), 1);
        due("table: no BOOK", x.count(2), 0);
        due("table: nothing CARRIED", x.one(1, 7), 0);
        due("table: nothing THOUGHT", x.think(1, 0), 0);
        due("table: IMAGES stay", x.count(3), 1);
        due("table: SHEETS stay", x.count(5), 3);
        due("table: of no text", x.table(), 0);
        due("table: nobody then", x.count(0), 0);
        Check.write(x, "begin 2;one 5 9 1 1 poor part 2 purse 3;");
        due("table: two lines", x.table(), 2);
        Check.write(x, "begin 3;one 0 1 1 1;");
        due("table: begin is told once each", x.table(), 2);
        due("table: begin", x.count(6), 3);
        due("table: purse as at first", x.one(0, 4), 999);
        due("table: part as at first", x.one(0, 5), 1);
        due("table: not poor as at first", x.one(0, 6), 0);
    }

    private static void fault(String text, int fault, int place) {
        WhoseRound x = new WhoseRound();
        Check.write(x, text);
        due("table of " + text, x.table(), -10 - place);
        due("fault of " + text, x.fault(), fault);
        due("table after it", x.table(), 0);
        due("fault after it", x.fault(), 0);
    }

    private static void faults() {
        fault("one 0 1 1 1!", 1, 11);
        fault("\u00e9", 1, 0);
        fault("One", 1, 0);
        fault("one\t0 1 1 1;", 1, 3);
        fault("one 0 0001", 1, 6);
        fault("1234", 1, 0);
        fault(";", 2, 0);
        fault("  12", 2, 2);
        fault("z", 2, 0);
        fault("{", 1, 0);
        fault("`", 1, 0);
        fault("one 0 1 1 1:", 1, 11);
        fault("one 0 1 1 1/", 1, 11);
        fault("one 0 999", 3, 6);
        fault("tne 0 1 1 1;", 2, 0);
        fault("on 0 1 1 1;", 2, 0);
        fault("ones 0", 2, 0);
        fault("purse 3;", 2, 0);
        fault("one 0 1 1 1 one", 2, 12);
        fault("one 0 1 1 1", 2, 11);
        fault("one 0 1 1 1  ", 2, 13);
        fault("one 0 1 1;", 2, 9);
        fault("one 0 1 1 1 1;", 2, 12);
        fault("one 0 1 1 1 poor 1;", 2, 17);
        fault("one 0 1 1 1 purse;", 2, 17);
        fault("begin", 2, 5);
        fault("begin 1 1;", 2, 8);
        fault("begin 1 begin", 2, 8);
        fault("one 240 240 1 1;", 3, 4);
        fault("one 7 7 1 1;", 3, 6);
        fault("one 7 241 ! 1;", 3, 6);
        fault("one 0 1 0 1;", 3, 8);
        fault("one 0 1 100 1;", 3, 8);
        fault("one 0 1 1 0;", 3, 10);
        fault("one 0 1 1 100;", 3, 10);
        fault("one 0 1 1 1 part 10;", 3, 17);
        fault("begin 0;", 3, 6);
        fault("begin9", 3, 5);
        fault("one 0 1 1 1 part 1 purse 2 part !", 4, 27);
        fault("one 0 1 1 1 poor poor;", 4, 17);
        fault("begin 1; begin !", 4, 9);
        fault("one 0 1 1 1;".repeat(8) + "  one !", 5, 98);
        WhoseRound x = Check.tableOf("one 0 1 1 1 part 1;".repeat(8) + "begin 1;");
        due("eight and begin are taken", x.count(0), 8);
    }

    private static void one() {
        WhoseRound x = Check.tableOf(TWO);
        due("one: PRICE", x.one(1, 2), 7);
        due("one: nobody", x.one(2, 0), BAD_PENCE);
        due("one: below", x.one(-1, 0), BAD_PENCE);
        due("one: what", x.one(0, 8), BAD_PENCE);
        due("one: what below", x.one(0, -1), BAD_PENCE);
        due("one: far", x.one(MAX, MIN), BAD_PENCE);
    }

    private static void set() {
        WhoseRound x = Check.tableOf("one 10 20 5 60;");
        int[][] rows = { // what, v, what is due
            {0, 20, BAD_PENCE}, {0, -1, BAD_PENCE}, {0, 19, 10}, {1, 19, BAD_PENCE}, {1, 241, BAD_PENCE}, {1, 240, 20},
            {0, 240, BAD_PENCE}, {0, 239, 19}, {1, 239, BAD_PENCE}, {0, 0, 239}, {1, 0, BAD_PENCE}, {1, 1, 240},
            {2, 0, BAD_PENCE}, {2, 100, BAD_PENCE}, {2, 99, 5}, {2, 1, 99}, {3, 0, BAD_PENCE}, {3, 100, BAD_PENCE},
            {3, 99, 60}, {3, 1, 99}, {4, -1, BAD_PENCE}, {4, 1000, BAD_PENCE}, {4, 0, 999}, {4, 999, 0},
            {5, -1, BAD_PENCE}, {5, 10, BAD_PENCE}, {5, 9, 1}, {5, 0, 9}, {6, -1, BAD_PENCE}, {6, 2, BAD_PENCE},
            {6, 1, 0}, {6, 0, 1}, {7, -100000, BAD_PENCE}, {7, 100000, BAD_PENCE}, {7, -99999, 0}, {7, 99999, -99999},
            {8, 0, BAD_PENCE}, {-1, 0, BAD_PENCE}};
        for (int[] row : rows) {
            due("set " + row[0] + " " + row[1], x.set(0, row[0], row[1]), row[2]);
        }
        due("set: it stands", x.one(0, 7), 99999);
        due("set: nobody", x.set(1, 2, 3), BAD_PENCE);
    }

    // ---- promises 8 to 11

    private static void evening() {
        WhoseRound x = Check.tableOf(TWO);
        int[] turn = {4, 48, 4, 0, 9, 0, 77};
        for (int what = 0; what < 7; what++) {
            due("evening: " + what, x.evening(TURN, 77, what), turn[what]);
        }
        int[] own = {4, 48, 0, 0, 0, 0, 77};
        for (int what = 0; what < 7; what++) {
            due("evening by OWN: " + what, x.evening(OWN, 77, what), own[what]);
        }
        due("evening: rule", x.evening(7, 0, 0), WhoseRound.BAD);
        due("evening: rule below", x.evening(-1, 0, 0), WhoseRound.BAD);
        due("evening: what", x.evening(0, 0, 7), WhoseRound.BAD);
        due("evening: what below", x.evening(0, 0, -1), WhoseRound.BAD);
        x.set(1, 7, -50);
        due("evening: WORST with what is CARRIED", x.evening(TURN, 0, 2), 54);
        due("evening: whose that is", x.evening(TURN, 0, 3), 1);
        due("evening: EVER with what is CARRIED", x.evening(TURN, 0, 4), 59);
        WhoseRound nobody = new WhoseRound();
        due("evening of nobody: WORST", nobody.evening(TURN, 0, 2), 0);
        due("evening of nobody: whose", nobody.evening(TURN, 0, 3), WhoseRound.NONE);
        due("evening of nobody: not blocked", nobody.evening(TURN, 0, 5), 0);
    }

    private static void eveningEdges() {
        minutes("gone when the glass is empty", Check.tableOf("one 0 60 5 60;"), TURN, 0);
        minutes("comes late", Check.tableOf("one 239 240 5 60;"), TURN, 239);
        minutes("begin 1", Check.tableOf("one 0 240 5 99;one 10 240 5 99;"), TURN, 0, 10, 99, 109, 198, 208);
        minutes("begin 2", Check.tableOf("one 0 240 5 99;one 10 240 5 99;begin 2;"), TURN, 0, 99, 198);
        minutes("all that are there", Check.tableOf("one 0 240 5 99;one 0 240 5 50;begin 8;"), TURN, 0, 99, 198);
        minutes("all that are left", Check.tableOf("one 0 100 5 99;one 0 240 5 50;begin 2;"), TURN, 0, 99, 149, 199);
        WhoseRound purse = Check.tableOf("one 0 240 5 60 purse 5;");
        minutes("an empty purse", purse, TURN, 0);
        due("blocked by an empty purse", purse.evening(TURN, 0, 5), 180);
        WhoseRound fast = Check.tableOf("one 0 240 9 1;");
        due("40 ROUNDS", fast.evening(TURN, 0, 0), 40);
        due("not blocked behind the 40th", fast.evening(TURN, 0, 5), 0);
        fast.set(0, 4, 350);
        due("38 ROUNDS are paid", fast.evening(TURN, 0, 0), 38);
        due("blocked ahead of the 40th", fast.evening(TURN, 0, 5), 202);
        WhoseRound poor = Check.tableOf("one 0 240 5 99 poor;one 30 240 5 99;");
        minutes("a poor one waits", poor, TURN, 30, 129, 228);
        due("blocked as the poor one waits", poor.evening(TURN, 0, 5), 30);
        due("nobody to wait for", Check.tableOf("one 100 110 5 99 poor;").evening(LOT, 5, 5), 10);
        due("no lot is drawn of nobody", Check.tableOf("one 0 9 5 99 poor;").evening(LOT, 5, 6), 5);
        WhoseRound away = Check.tableOf("one 0 240 5 99;one 0 240 5 99;one 10 20 5 9;begin 2;");
        away.set(2, 7, -500);
        due("EVER is not of who is at no ROUND", away.evening(OWN, 0, 4), 0);
        due("WORST is", away.evening(OWN, 0, 2), 500);
        due("whose WORST is", away.evening(OWN, 0, 3), 2);
        WhoseRound ever = Check.tableOf("one 0 9 5 9;one 0 9 5 9;one 0 9 5 9;");
        due("EVER of the first one", ever.evening(TURN, 0, 4), 10);
        WhoseRound end = Check.tableOf("one 5 240 5 60 purse 5;");
        due("EMPTY at the end of an EVENING", end.evening(TURN, 0, 5), 175);
        due("not so at another's beginning", end.evening(TURN, 0, 5), 175);
    }

    private static void eight() {
        WhoseRound x = Check.tableOf("one 0 240 1 99;".repeat(8));
        for (int rule = 0; rule < 7; rule++) {
            due("eight: ROUNDS by " + rule, x.evening(rule, 1, 0), 3);
            due("eight: COST by " + rule, x.evening(rule, 1, 1), 24);
        }
        due("eight: OWE", x.round(OWE, 0, 2, 1), 2);
        due("eight: all", x.round(OWE, 0, 2, 3), 255);
        due("eight: WORST", x.best(0), 5);
        due("eight: of several rows the first", x.best(10) * 100 + x.best(11) * 10 + x.best(12), 12);
        due("eight: lot", x.lot(7, 0), 3);
        due("eight: lot", x.lot(7, 1), 1);
        due("eight: SPREAD", x.lot(7, 2), 21);
        due("eight: right", x.right(TURN, 0, 7, 0), 3);
        due("eight: fridays", x.fridays(TURN, 0, 8, 0), 0);
        due("eight: fairest", x.fairest(0, 0), OWN);
        due("eight: sure", x.sure(0, 1), 0);
        due("eight: goes", x.goes(TURN, 0), 3);
        due("eight: CARRIED", x.one(7, 7), -3);
        due("eight: coins", x.coins(0), 7);
        due("eight: sets", x.coins(1), 1);
        for (int p = 0; p < 8; p++) {
            x.book(p);
            x.think(p, 8);
        }
        due("eight: judge", x.judge(TURN, 0, 0), WhoseRound.NONE);
        due("eight: thought", x.thought(TURN, 0, 0), 40);
        due("eight: keep", x.keep(0), 0);
        due("eight: back", x.back(0), 8);
        due("eight: the last", x.think(7, 0), 8);
        due("eight: no ninth", x.book(8), WhoseRound.BAD);
    }

    private static void round() {
        WhoseRound x = Check.tableOf("one 0 240 5 99;one 10 109 7 99;begin 2;");
        int[][] want = {{0, 0, 5, 1, 1}, {99, 1, 12, 3, 3}, {198, 0, 5, 1, 1}};
        for (int i = 0; i < 3; i++) {
            for (int what = 0; what < 5; what++) {
                due("round " + i + " " + what, x.round(TURN, 0, i, what), want[i][what]);
            }
        }
        due("round: no such", x.round(TURN, 0, 3, 0), WhoseRound.BAD);
        due("round: below", x.round(TURN, 0, -1, 0), WhoseRound.BAD);
        due("round: far", x.round(TURN, 0, MAX, 0), WhoseRound.BAD);
        due("round: what", x.round(TURN, 0, 0, 5), WhoseRound.BAD);
        due("round: what below", x.round(TURN, 0, 0, -1), WhoseRound.BAD);
        due("round: rule", x.round(7, 0, 0, 0), WhoseRound.BAD);
        due("round: OWN is bought by nobody", x.round(OWN, 0, 1, 1), WhoseRound.NONE);
    }

    private static void rules() {
        WhoseRound two = Check.tableOf(TWO);
        buyers("TURN", two, TURN, 0, 0, 1, 0, 1);
        buyers("OWE", two, OWE, 0, 0, 1, 1, 0);
        buyers("FIRST, all as long", two, FIRST, 0, 0, 0, 0, 0);
        buyers("LOT by 16838, 5758, 10113, 17515", two, LOT, 1, 0, 0, 1, 1);
        due("LOT: the seed then is not the seed", two.evening(LOT, 1, 6) == 1 ? 1 : 0, 0);
        WhoseRound once = Check.tableOf("one 0 240 5 99 poor;one 0 9 5 99;");
        due("LOT: the seed once on, also of one", once.evening(LOT, 1, 6), 1103527590);
        WhoseRound three = Check.tableOf("one 0 240 5 40;one 0 100 5 40;one 60 240 5 40;begin 2;");
        buyers("TURN: round, and who is there", three, TURN, 0, 0, 1, 2, 0, 2, 0);
        buyers("LONGEST: never is longest", three, LONGEST, 0, 0, 1, 2, 0, 2, 0);
        WhoseRound back = Check.tableOf("one 0 240 5 40;one 60 240 5 40;one 0 240 5 40;begin 3;");
        buyers("LONGEST: ago", back, LONGEST, 0, 0, 2, 1, 0);
        buyers("TURN: by numbers", back, TURN, 0, 0, 2, 0, 1);
        WhoseRound empty = Check.tableOf("one 0 240 5 30;one 0 240 5 20;begin 2;");
        buyers("FIRST: who is EMPTY longest", empty, FIRST, 0, 0, 1, 1, 1);
        WhoseRound thirsty = Check.tableOf("one 0 240 5 90;one 0 240 5 90;one 0 240 5 20;");
        buyers("FIRST: who is not EMPTY never", thirsty, FIRST, 0, 0, 2, 2, 2, 2, 0);
        thirsty.set(2, 6, 1);
        buyers("FIRST: but if nobody else is", thirsty, FIRST, 0, 0, 0, 0, 0, 0, 0);
        WhoseRound purse = Check.tableOf("one 0 240 5 60 purse 9;one 0 240 5 60 purse 20;one 0 240 5 60;begin 3;");
        buyers("purses", purse, TURN, 0, 1, 2, 2, 2);
        WhoseRound carried = Check.tableOf(TWO);
        carried.set(1, 7, -1);
        buyers("OWE: with what is CARRIED", carried, OWE, 0, 1, 0, 1, 0);
    }

    private static void bookAndOwn() {
        WhoseRound x = Check.tableOf("one 0 240 5 60;one 0 240 7 60;one 60 240 9 60 poor;begin 3;");
        for (int p : new int[] {1, 2, 1}) {
            x.book(p);
        }
        buyers("BOOK: told, poor, told, not told", x, BOOK, 0, 1, 0, 1, 0);
        x.set(2, 6, 0);
        buyers("BOOK: told all", x, BOOK, 0, 1, 2, 1, 2);
        x.set(2, 0, 61);
        buyers("BOOK: not there", x, BOOK, 0, 1, 0, 1, 2);
        x.set(1, 4, 12);
        buyers("BOOK: purse", x, BOOK, 0, 1, 0, 2, 0);
        WhoseRound own = Check.tableOf("one 0 240 5 60 poor;one 0 240 7 60 purse 13;begin 2;");
        due("OWN: ROUNDS", own.evening(OWN, 0, 0), 4);
        due("OWN: poor ones too", own.round(OWN, 0, 0, 3), 3);
        due("OWN: who has not enough gets none", own.round(OWN, 0, 1, 3), 1);
        due("OWN: but is there", own.round(OWN, 0, 1, 4), 3);
        due("OWN: COSTS what these cost", own.evening(OWN, 0, 1), 27);
        own.set(1, 4, 14);
        due("OWN: just enough", own.round(OWN, 0, 1, 3), 3);
        own.set(0, 4, 4);
        own.set(1, 4, 6);
        due("OWN: nobody can", own.evening(OWN, 0, 0), 0);
        due("OWN: blocked", own.evening(OWN, 0, 5), 240);
    }

    private static void of() {
        WhoseRound x = Check.tableOf(TWO);
        x.set(1, 7, -10);
        int[] second = {28, 24, 4, 2, -14, 14, 975};
        for (int what = 0; what < 7; what++) {
            due("of " + what, x.of(TURN, 0, 1, what), second[what]);
        }
        due("of OWN: PAID", x.of(OWN, 0, 1, 1), 28);
        due("of OWN: ROUNDS bought", x.of(OWN, 0, 1, 3), 0);
        due("of OWN: left", x.of(OWN, 0, 1, 6), 971);
        due("of: nobody", x.of(TURN, 0, 2, 0), BAD_PENCE);
        due("of: below", x.of(TURN, 0, -1, 0), BAD_PENCE);
        due("of: rule", x.of(7, 0, 0, 0), BAD_PENCE);
        due("of: what", x.of(TURN, 0, 0, 7), BAD_PENCE);
        due("of: what below", x.of(TURN, 0, 0, -1), BAD_PENCE);
    }

    private static void fairest() {
        WhoseRound x = Check.tableOf("one 0 240 5 60 purse 0;one 0 240 5 60;");
        due("fairest: all but OWN as far out", x.fairest(0, 0), OWN);
        due("fairest: that", x.fairest(0, 2), 0);
        WhoseRound two = Check.tableOf("one 0 120 5 60;one 0 120 5 60;begin 2;");
        due("fairest: of several the least", two.fairest(1, 0), TURN);
        due("fairest: EVER", two.fairest(1, 1), OWN);
        due("fairest: the least WORST", two.fairest(1, 2), 0);
        due("fairest: the least EVER", two.fairest(1, 3), 0);
        two.set(0, 7, 10);
        two.set(1, 7, -10);
        due("fairest: who owes pays", two.fairest(1, 0), OWE);
        due("fairest: evened", two.fairest(1, 2), 0);
        due("fairest: EVER by who owes", two.fairest(1, 3), 5);
        due("fairest: what", two.fairest(0, 4), WhoseRound.BAD);
        due("fairest: what below", two.fairest(0, -1), WhoseRound.BAD);
        due("fairest: nobody", new WhoseRound().fairest(0, 3), WhoseRound.STATE);
        due("fairest: nobody, what", new WhoseRound().fairest(0, 4), WhoseRound.BAD);
    }

    // ---- promises 12 to 16

    private static void best() {
        WhoseRound x = Check.tableOf("one 0 240 3 60 purse 0;one 0 180 6 60;one 60 240 6 60 purse 1;begin 3;");
        // Who is there: 0 and 1 (bits 3), all (7) twice, 0 and 2 (5).
        int least = leastWorst(new int[] {9, 15, 15, 9}, new int[] {12, 18, 18}, new int[] {3, 7, 7, 5});
        due("best: WORST", x.best(0), least);
        due("best: ROUNDS", x.best(1), 4);
        due("best: no such ROUND", x.best(14), WhoseRound.BAD);
        due("best: what", x.best(2), WhoseRound.BAD);
        due("best: what below 10", x.best(9), WhoseRound.BAD);
        due("best: what above", x.best(16), WhoseRound.BAD);
        due("best: what below 0", x.best(-1), WhoseRound.BAD);
        due("best: far", x.best(MIN), WhoseRound.BAD);
        due("best: adopt", x.adopt(), 4);
        due("best: purses are looked at then as ever", x.evening(TURN, 0, 5), 60);
        due("best: by OWN nobody buys", x.evening(OWN, 0, 2), 0);
        due("best: but by BEST somebody", x.best(0), least);
        x.set(0, 4, 999);
        x.set(2, 4, 999);
        due("best: its WORST by BOOK", x.evening(BOOK, 0, 2), least);
        for (int i = 0; i < 4; i++) {
            due("best: its buyers by BOOK", x.round(BOOK, 0, i, 1), x.best(10 + i));
        }
    }

    /** The least WORST of three PEOPLE, all rows tried. */
    private static int leastWorst(int[] costs, int[] had, int[] there) {
        int least = MAX;
        for (int row = 0; row < 81; row++) {
            int[] out = {-had[0], -had[1], -had[2]};
            boolean may = true;
            int rest = row;
            for (int i = 3; i >= 0; i--) {
                may &= (there[i] >> rest % 3 & 1) != 0;
                out[rest % 3] += costs[i];
                rest /= 3;
            }
            int worst = Math.max(Math.abs(out[0]), Math.max(Math.abs(out[1]), Math.abs(out[2])));
            least = may ? Math.min(least, worst) : least;
        }
        return least;
    }

    private static void bestEdges() {
        WhoseRound two = Check.tableOf(TWO);
        // 20 and 28 of 48, in ROUNDS of 12: 24 and 24; of several rows the first.
        due("best: out by 4", two.best(0), 4);
        for (int i = 0; i < 4; i++) {
            due("best: the first of several", two.best(10 + i), i < 2 ? 0 : 1);
        }
        two.set(0, 7, 24);
        due("best: with what is CARRIED", two.best(10), 0);
        due("best: with what is CARRIED", two.best(11), 1);
        due("best: with what is CARRIED, WORST", two.best(0), 16);
        due("best: nobody", new WhoseRound().best(0), 0);
        due("best: nobody, no ROUND", new WhoseRound().best(10), WhoseRound.BAD);
        WhoseRound six = Check.tableOf("one 0 240 5 40;");
        due("best: 6 ROUNDS", six.best(1), 6);
        six.set(0, 3, 39);
        due("best: more than 6 ROUNDS", six.best(1), WhoseRound.STATE);
        due("best: no such what first", six.best(3), WhoseRound.BAD);
        due("best: no such what first", six.best(16), WhoseRound.BAD);
        due("best: STATE ahead of no such ROUND", six.best(15), WhoseRound.STATE);
        due("adopt: more than 6 ROUNDS", six.adopt(), WhoseRound.STATE);
        WhoseRound poor = Check.tableOf("one 0 240 5 99 poor;one 1 240 5 99;begin 2;");
        due("best: nobody there could buy", poor.best(1), WhoseRound.NONE);
        due("best: NONE ahead of no such ROUND", poor.best(15), WhoseRound.NONE);
        due("adopt: nobody there could buy", poor.adopt(), WhoseRound.NONE);
        poor.set(1, 3, 1);
        due("best: 3 ROUNDS behind a MINUTE that nobody could buy in", poor.best(0), WhoseRound.NONE);
        poor.set(0, 3, 1);
        due("best: STATE ahead of NONE", poor.best(0), WhoseRound.STATE);
        due("best: another who is poor", Check.tableOf("one 0 99 5 99 poor;one 0 99 5 99;").best(10), 1);
    }

    private static void book() {
        WhoseRound x = Check.tableOf(TWO);
        due("book: nobody", x.book(2), WhoseRound.BAD);
        due("book: below", x.book(-1), WhoseRound.BAD);
        for (int i = 1; i <= 12; i++) {
            due("book", x.book(i % 2), i);
        }
        due("book: full", x.book(0), WhoseRound.FULL);
        due("book: BAD ahead of FULL", x.book(2), WhoseRound.BAD);
        due("shut", x.shut(), 12);
        due("shut again", x.shut(), 0);
        due("book anew", x.book(1), 1);
        buyers("book anew", x, BOOK, 0, 1, 0);
    }

    private static void judge() {
        WhoseRound x = Check.tableOf(TWO);
        due("judge: no BOOK", x.judge(TURN, 0, 0), WhoseRound.NONE);
        x.book(0);
        x.book(1);
        due("judge: as told", x.judge(TURN, 0, 0), WhoseRound.NONE);
        x.book(1);
        due("judge: the ROUND", x.judge(TURN, 0, 0), 2);
        due("judge: who should have", x.judge(TURN, 0, 1), 0);
        due("judge: by OWE all is right", x.judge(OWE, 0, 1), WhoseRound.NONE);
        due("judge: OWN tells nobody", x.judge(OWN, 0, 0), 0);
        due("judge: OWN tells nobody", x.judge(OWN, 0, 1), WhoseRound.NONE);
        for (int i = 0; i < 9; i++) {
            x.book(i == 0 ? 0 : 1);
        }
        due("judge: beyond the EVENING", x.judge(OWE, 0, 0), WhoseRound.NONE);
        due("judge: rule", x.judge(7, 0, 0), WhoseRound.BAD);
        due("judge: what", x.judge(0, 0, 2), WhoseRound.BAD);
        due("judge: what below", x.judge(0, 0, -1), WhoseRound.BAD);
    }

    private static void adopt() {
        WhoseRound x = Check.tableOf(TWO);
        for (int i = 0; i < 9; i++) {
            x.book(1);
        }
        due("adopt", x.adopt(), 4);
        due("adopt: how many", x.count(2), 4);
        buyers("adopt", x, BOOK, 0, 0, 0, 1, 1);
        due("adopt: judged", x.judge(BOOK, 0, 0), WhoseRound.NONE);
        x.set(0, 3, 1);
        x.set(1, 3, 1);
        due("adopt: refused", x.adopt(), WhoseRound.STATE);
        due("adopt: refused, so the BOOK stays", x.count(2), 4);
        due("adopt: nobody", new WhoseRound().adopt(), 0);
    }

    // ---- promises 17 to 19

    private static void late() {
        // TURN: 0, 1, 0 buy for 10: OUT by 5. Who comes at 1 and the other buy in turn the own glass.
        WhoseRound x = Check.tableOf("one 0 240 5 99;one 0 240 5 99;");
        due("late: GAIN", x.late(0, TURN, 0, 0), 5);
        due("late: the MINUTE", x.late(0, TURN, 0, 1), 1);
        due("late: all stays", x.one(0, 0), 0);
        due("late: OWN has none", x.late(0, OWN, 0, 0), 0);
        WhoseRound alone = Check.tableOf("one 9 240 5 99;");
        due("late: alone, no GAIN", alone.late(0, TURN, 0, 0), 0);
        due("late: alone, as it is", alone.late(0, TURN, 0, 1), 9);
        // Who comes at 0 pays for both; earlier is another MINUTE, too.
        WhoseRound early = Check.tableOf("one 50 60 5 99;one 50 60 9 99;");
        due("late: who gets for nothing gains no more", early.late(1, TURN, 0, 0), 0);
        due("late: who pays for both gains by coming ahead", early.late(0, TURN, 0, 0), 9);
        due("late: at 0", early.late(0, TURN, 0, 1), 0);
        WhoseRound last = Check.tableOf("one 0 2 5 99;one 0 2 9 99;");
        due("late: the last MINUTE ahead of GOES", last.late(0, TURN, 0, 1), 1);
        WhoseRound gone = Check.tableOf("one 0 1 5 99;one 0 240 9 99;");
        due("late: not when one GOES", gone.late(0, TURN, 0, 0), 0);
        due("late: as it is", gone.late(0, TURN, 0, 1), 0);
        due("late: nobody", x.late(2, TURN, 0, 0), WhoseRound.BAD);
        due("late: below", x.late(-1, TURN, 0, 0), WhoseRound.BAD);
        due("late: rule", x.late(0, 7, 0, 0), WhoseRound.BAD);
        due("late: what", x.late(0, 0, 0, 2), WhoseRound.BAD);
        due("late: what below", x.late(0, 0, 0, -1), WhoseRound.BAD);
    }

    private static void slow() {
        // FIRST: 0 buys at 0 and whenever EMPTY first; by 99 the other is always EMPTY first.
        WhoseRound x = Check.tableOf("one 0 150 5 50;one 0 150 5 60;begin 2;");
        // Glasses at 0, 60, 120: 0 buys each for 10: OUT 15. From 61 on the other buys those behind the first.
        due("slow: OUT as it is", x.of(FIRST, 0, 0, 4), 15);
        due("slow: GAIN", x.slow(0, FIRST, 0, 0), 20);
        due("slow: how long", x.slow(0, FIRST, 0, 1), 61);
        due("slow: all stays", x.one(0, 3), 50);
        due("slow: no GAIN by OWN", x.slow(0, OWN, 0, 0), 0);
        due("slow: as it is", x.slow(0, OWN, 0, 1), 50);
        due("slow: nobody", x.slow(2, TURN, 0, 0), WhoseRound.BAD);
        due("slow: below", x.slow(-1, TURN, 0, 0), WhoseRound.BAD);
        due("slow: rule", x.slow(0, -1, 0, 0), WhoseRound.BAD);
        due("slow: what", x.slow(0, 0, 0, 2), WhoseRound.BAD);
        due("slow: what below", x.slow(0, 0, 0, -1), WhoseRound.BAD);
    }

    private static void sure() {
        // One alone never gains; of two, who buys the first ROUND by TURN may have the other buy the second.
        WhoseRound alone = Check.tableOf("one 0 240 5 60;");
        due("sure: alone", alone.sure(0, 0), TURN);
        due("sure: alone, that", alone.sure(0, 1), 0);
        WhoseRound two = Check.tableOf("one 0 150 5 50;one 0 150 5 60;begin 2;");
        int least = MAX;
        int rule = -1;
        for (int r = 6; r >= 0; r--) {
            int greatest = Math.max(two.slow(0, r, 0, 0), two.slow(1, r, 0, 0));
            if (greatest <= least) {
                least = greatest;
                rule = r;
            }
        }
        due("sure: the RULE", two.sure(0, 0), rule);
        due("sure: that", two.sure(0, 1), least);
        due("sure: OWN at the latest", least, 0);
        due("sure: what", two.sure(0, 2), WhoseRound.BAD);
        due("sure: what below", two.sure(0, -1), WhoseRound.BAD);
        due("sure: nobody", new WhoseRound().sure(0, 0), WhoseRound.STATE);
        due("sure: nobody, what", new WhoseRound().sure(0, 2), WhoseRound.BAD);
    }

    // ---- promises 20 to 26

    private static void right() {
        WhoseRound x = Check.tableOf("one 0 240 5 60 part 2;one 0 240 7 60 part 7;begin 2;");
        due("right: 48 by 2 of 9", x.right(TURN, 0, 0, 0), 32);
        due("right: 48 by 2 of 9", x.right(TURN, 0, 0, 1), 3);
        x.set(0, 5, 0);
        due("right: 0 is 0", x.right(TURN, 0, 0, 0), 0);
        due("right: by 1", x.right(TURN, 0, 0, 1), 1);
        due("right: all", x.right(TURN, 0, 1, 0), 48);
        due("right: all, by 1", x.right(TURN, 0, 1, 1), 1);
        x.set(1, 5, 0);
        due("right: all parts are 0", x.right(TURN, 0, 1, 0), WhoseRound.STATE);
        due("right: BAD first", x.right(TURN, 0, 2, 0), WhoseRound.BAD);
        due("right: rule", x.right(7, 0, 0, 0), WhoseRound.BAD);
        due("right: what", x.right(0, 0, 0, 2), WhoseRound.BAD);
        due("right: what below", x.right(0, 0, 0, -1), WhoseRound.BAD);
    }

    private static void lot() {
        // ROUNDS of 5 by 0 alone, then 12 by 0 or 1, then 5 by 0 alone.
        WhoseRound x = Check.tableOf("one 0 240 5 99 purse 1;one 10 109 7 99;begin 2;");
        long[][] want = {{16, 1, 36, 1}, {6, 1, 36, 1}};
        due("lot: purses are looked at but BY LOT", x.evening(OWN, 0, 0), 1);
        for (int p = 0; p < 2; p++) {
            for (int what = 0; what < 4; what++) {
                due("lot " + p + " " + what, x.lot(p, what), want[p][what]);
            }
        }
        WhoseRound three = Check.tableOf("one 0 9 2 9;one 0 9 2 9;one 0 9 3 9;one 0 9 1 9 poor;");
        long[] rich = {8, 3, 128, 9};
        long[] poor = {0, 1, 0, 1};
        for (int what = 0; what < 4; what++) {
            due("lot of 8 by three " + what, three.lot(2, what), rich[what]);
            due("lot of a poor one " + what, three.lot(3, what), poor[what]);
        }
        for (int p = 0; p < 3; p++) {
            three.set(p, 6, 1);
        }
        due("lot: nobody there could buy", three.lot(0, 0), WhoseRound.NONE);
        WhoseRound waits = Check.tableOf("one 0 9 2 9 poor;one 1 9 2 9;");
        due("lot: nobody there could buy in one MINUTE", waits.lot(1, 0), WhoseRound.NONE);
        waits.set(1, 0, 0);
        due("lot: somebody could", waits.lot(1, 0), 4);
        due("lot: BAD first", three.lot(4, 0), WhoseRound.BAD);
        due("lot: below", three.lot(-1, 0), WhoseRound.BAD);
        due("lot: what", three.lot(0, 4), WhoseRound.BAD);
        due("lot: what below", three.lot(0, -1), WhoseRound.BAD);
        WhoseRound fast = Check.tableOf("one 0 240 99 1;one 0 240 99 1;");
        due("lot: 40 ROUNDS", fast.lot(0, 0), 40 * 99);
        due("lot: 40 ROUNDS, SPREAD", fast.lot(0, 2), 40 * 99 * 99);
    }

    private static void fridays() {
        // One ROUND of 10 an EVENING: 0, 1, 0, .. buy, as who bought last goes on.
        WhoseRound x = Check.tableOf("one 0 9 5 9;one 0 9 5 9;");
        int[][] rows = {{1, 0, 5}, {1, 1, 5}, {1, 2, WhoseRound.NONE}, {1, 3, 10}, {2, 0, 0}, {2, 1, 5}, {2, 2, 2},
            {3, 0, 5}, {60, 0, 0}, {60, 3, 600}};
        for (int rule : new int[] {TURN, OWE, LONGEST}) {
            for (int[] row : rows) {
                due("fridays by " + rule, x.fridays(rule, 0, row[0], row[1]), row[2]);
            }
        }
        due("fridays by FIRST: who buys always", x.fridays(FIRST, 0, 3, 0), 15);
        due("fridays by OWN: nobody is OUT", x.fridays(OWN, 0, 3, 2), 1);
        // By 16838, 5758, 10113, 17515: 0, 0, 1, 1, as the seed goes on.
        due("fridays by LOT", x.fridays(LOT, 1, 2, 0), 10);
        due("fridays by LOT: nobody is OUT", x.fridays(LOT, 1, 4, 2), 4);
        x.book(1);
        due("fridays by BOOK: told each EVENING", x.fridays(BOOK, 0, 3, 0), 15);
        x.set(0, 7, 5);
        x.set(1, 7, -5);
        due("fridays: what is CARRIED", x.fridays(TURN, 0, 1, 0), 10);
        due("fridays: what is CARRIED, by OWE", x.fridays(OWE, 0, 1, 2), 1);
        due("fridays: all stays", x.one(0, 7), 5);
        due("fridays: all stays", x.round(TURN, 0, 0, 1), 0);
        due("fridays: of none", x.fridays(TURN, 0, 0, 0), WhoseRound.BAD);
        due("fridays: of too many", x.fridays(TURN, 0, 61, 0), WhoseRound.BAD);
        due("fridays: what", x.fridays(TURN, 0, 1, 4), WhoseRound.BAD);
        due("fridays: what below", x.fridays(TURN, 0, 1, -1), WhoseRound.BAD);
        due("fridays: rule", x.fridays(7, 0, 1, 0), WhoseRound.BAD);
        due("fridays: of nobody", new WhoseRound().fridays(TURN, 0, 1, 2), 1);
    }

    private static void goes() {
        WhoseRound x = Check.tableOf(TWO);
        due("goes: ROUNDS", x.goes(TURN, 0), 4);
        due("goes: CARRIED", x.one(0, 7), 4);
        due("goes: CARRIED", x.one(1, 7), -4);
        x.goes(TURN, 0);
        due("goes: CARRIED on", x.one(1, 7), -8);
        buyers("goes: who bought last does not go on", x, TURN, 0, 0, 1);
        due("goes: rule", x.goes(7, 0), WhoseRound.BAD);
        due("goes: rule below", x.goes(-1, 0), WhoseRound.BAD);
        due("goes: refused, all stays", x.one(1, 7), -8);
    }

    private static void coins() {
        WhoseRound x = Check.tableOf("one 0 9 1 9;".repeat(6));
        int[] carried = {3, -3, 0, 5, -2, -3};
        due("coins: all even", x.coins(0), 0);
        due("coins: all even, sets", x.coins(1), 6);
        for (int p = 0; p < 6; p++) {
            x.set(p, 7, carried[p]);
        }
        due("coins: 3 to 3, 5 to 2 and 3", x.coins(0), 3);
        due("coins: sets", x.coins(1), 3);
        x.set(0, 7, 4);
        due("coins: not even", x.coins(0), WhoseRound.STATE);
        due("coins: BAD first", x.coins(2), WhoseRound.BAD);
        due("coins: below", x.coins(-1), WhoseRound.BAD);
        x.set(2, 7, -1);
        due("coins: 4 to 3 and 1, 5 to 2 and 3", x.coins(0), 4);
        due("coins: sets of three", x.coins(1), 2);
        int[][] rows = {{7, -7, 1, -1, 2, -2}, {1, 1, 1, 1, 1, -5}, {-9, 4, 5, 0, 0, 0}, {1, 2, -3, -3, 2, 1},
            {1, 2, 4, 8, -5, -10}, {-99999, 99999, 0, 0, 1, -1}};
        int[] sets = {3, 1, 4, 2, 2, 4};
        for (int i = 0; i < rows.length; i++) {
            for (int p = 0; p < 6; p++) {
                x.set(p, 7, rows[i][p]);
            }
            due("coins: row " + i, x.coins(0), 6 - sets[i]);
            due("coins: sets of row " + i, x.coins(1), sets[i]);
        }
        due("coins: of nobody", new WhoseRound().coins(0), 0);
    }

    private static void think() {
        WhoseRound x = Check.tableOf(TWO);
        due("think: at first", x.think(1, 9999), 0);
        due("think: what it was", x.think(1, 0), 9999);
        due("think: too much", x.think(1, 10000), WhoseRound.BAD);
        due("think: below", x.think(1, -1), WhoseRound.BAD);
        due("think: nobody", x.think(2, 0), WhoseRound.BAD);
        due("think: refused", x.think(1, 5), 0);
    }

    private static void thought() {
        WhoseRound x = Check.tableOf(TWO);
        due("thought: nothing", x.thought(TURN, 0, 0), -48);
        due("thought: nobody too much", x.thought(TURN, 0, 2), WhoseRound.NONE);
        x.think(0, 24);
        x.think(1, 30);
        due("thought: more", x.thought(TURN, 0, 0), 6);
        due("thought: so", x.thought(TURN, 0, 1), 1);
        due("thought: who", x.thought(TURN, 0, 2), 1);
        x.think(1, 25);
        due("thought: a penny too much", x.thought(TURN, 0, 2), 1);
        x.think(1, 24);
        due("thought: both are so", x.thought(TURN, 0, 1), 2);
        x.think(0, 30);
        x.think(1, 30);
        due("thought: none is so", x.thought(TURN, 0, 1), 0);
        due("thought: of several the least", x.thought(TURN, 0, 2), 0);
        due("thought: rule", x.thought(7, 0, 0), BAD_PENCE);
        due("thought: what", x.thought(0, 0, 3), BAD_PENCE);
        due("thought: what below", x.thought(0, 0, -1), BAD_PENCE);
    }

    // ---- promises 27 to 33

    private static void images() {
        WhoseRound x = Check.tableOf(TWO);
        x.think(0, 3);
        x.set(1, 7, 8);
        x.book(1);
        due("back: none", x.back(0), WhoseRound.STATE);
        due("keep: first", x.keep(0), 0);
        due("keep: again", x.keep(0), 1);
        due("keep: below", x.keep(-1), WhoseRound.BAD);
        due("keep: above", x.keep(2), WhoseRound.BAD);
        due("back: below", x.back(-1), WhoseRound.BAD);
        due("back: above", x.back(2), WhoseRound.BAD);
        due("back: none", x.back(1), WhoseRound.STATE);
        x.think(0, 4);
        x.set(1, 7, 9);
        x.set(0, 2, 99);
        x.shut();
        x.book(0);
        x.book(0);
        x.sheet(0, 0, 4);
        Check.write(x, "!");
        x.table();
        Check.write(x, "abc");
        due("keep: another", x.keep(1), 0);
        due("back: how many", x.back(0), 2);
        due("back: THOUGHT", x.think(0, 3), 3);
        due("back: CARRIED", x.one(1, 7), 8);
        due("back: PRICE", x.one(0, 2), 5);
        due("back: the BOOK", x.count(2), 1);
        buyers("back: the BOOK", x, BOOK, 0, 1, 0);
        due("back: FAULT stays", x.fault(), 1);
        due("back: THE TAPE stays", x.count(4), 3);
        due("back: SHEETS stay", x.count(5), 4);
        x.set(0, 2, 50);
        due("back: again", x.back(0), 2);
        due("back: the IMAGE is as kept", x.one(0, 2), 5);
        due("back: the other", x.back(1), 2);
        due("back: the other's PRICE", x.one(0, 2), 99);
        x.end(0);
        x.table();
        due("back: nobody is there", x.count(0), 0);
        due("back: begin", x.back(0) * 10 + x.count(6), 22);
    }

    private static void sheets() {
        WhoseRound x = Check.tableOf(TWO);
        due("sheet: k", x.sheet(4, 0, 1), WhoseRound.BAD);
        due("sheet: k below", x.sheet(-1, 0, 1), WhoseRound.BAD);
        due("sheet: lane", x.sheet(0, 3, 1), WhoseRound.BAD);
        due("sheet: lane below", x.sheet(0, -1, 1), WhoseRound.BAD);
        due("sheet: above", x.sheet(0, 0, 41), WhoseRound.BAD);
        due("sheet: SIZE", x.sheet(0, 0, -1), -14);
        due("sheet: far", x.sheet(0, 0, MIN), -14);
        due("sheet: BAD ahead of SIZE", x.sheet(0, 3, -1), WhoseRound.BAD);
        due("sheet: nothing as yet", x.count(5), WhoseRound.NONE);
        due("sheet", x.sheet(0, 0, 40), 1);
        due("sheet: CELLS", x.count(5), 40);
        x.lay(0, 0, 1);
        due("sheet: SIZE", x.sheet(0, 0, -1), -14);
        due("sheet: refused, it stays", x.count(5), 40);
        due("sheet: anew", x.sheet(0, 0, 1), 1);
        x.read(0, 0, 0, 1);
        buyers("sheet: anew, of 0", x, BOOK, 0, 0);
        due("sheet: of none", x.sheet(0, 2, 0), 1);
        due("sheet: of none, CELLS", x.count(5), 0);
        due("sheet: of none, INDEX", x.lay(0, 0, 0), -12);
        due("sheet: of none, none read", x.read(0, 2, 0, 1), 0);
        due("sheet: of none, INDEX", x.torn(), 2);
    }

    private static void lay() {
        WhoseRound x = Check.tableOf(TWO);
        due("lay: k", x.lay(4, 0, 0), WhoseRound.BAD);
        due("lay: k below", x.lay(-1, 0, 0), WhoseRound.BAD);
        due("lay: NULL", x.lay(3, 99, 0), -11);
        int[] ones = {0x7f01, 0x7fff0001, 1};
        int[] none = {0x00ff, 0x0001ffff, 257};
        for (int lane = 0; lane < 3; lane++) {
            x.sheet(3, lane, 2);
            due("lay", x.lay(3, 1, ones[lane]), 1);
            due("lay: INDEX", x.lay(3, 2, 0), -12);
            due("lay: INDEX below", x.lay(3, -1, 0), -12);
            due("lay: lowest bits are a ONE", x.read(3, lane, 1, 1), 1);
            x.lay(3, 1, none[lane]);
            due("lay: lowest bits are no ONE", x.read(3, lane, 1, 1), -20);
        }
        buyers("lay: 1 each", x, BOOK, 0, 1, 1, 1);
    }

    private static void read() {
        WhoseRound x = Check.tableOf(TWO);
        due("read: k", x.read(4, 0, 0, 1), WhoseRound.BAD);
        due("read: k below", x.read(-1, 0, 0, 1), WhoseRound.BAD);
        due("read: lane", x.read(0, 3, 0, 1), WhoseRound.BAD);
        due("read: n", x.read(0, 0, 0, 13), WhoseRound.BAD);
        due("read: n below", x.read(0, 0, 0, -1), WhoseRound.BAD);
        due("read: NULL", x.read(0, 0, 0, 1), 0);
        due("torn: NULL", x.torn(), 1);
        due("torn: refused leaves it", x.read(0, 0, 0, 13) + x.torn(), 0);
        due("read: none of nothing", x.read(0, 0, 0, 0), 0);
        due("torn: none of nothing", x.torn(), 0);
        x.sheet(0, 1, 6);
        x.lay(0, 0, 1);
        x.lay(0, 3, 2);
        due("read: CAST", x.read(0, 2, 99, 1), 0);
        due("torn: CAST", x.torn(), 3);
        due("read: no ONE", x.read(0, 1, 1, 5), -22);
        due("torn: refused leaves it", x.torn(), 3);
        due("read: refused, none came", x.count(2), 0);
        due("read: INDEX", x.read(0, 1, 4, 3), 2);
        due("torn: INDEX", x.torn(), 2);
        due("read: those ahead came", x.count(2), 2);
        due("read: INDEX below", x.read(0, 1, -1, 2), 0);
        due("read: INDEX far", x.read(0, 1, MAX, 2), 0);
        due("read: INDEX far below", x.read(0, 1, MIN, 2), 0);
        x.shut();
        due("read: all", x.read(0, 1, 0, 3), 3);
        due("torn: none", x.torn(), 0);
        buyers("read", x, BOOK, 0, 1, 0, 0);
        x.sheet(0, 0, 12);
        due("read: no room", x.read(0, 0, 0, 10), WhoseRound.FULL);
        due("read: no room, none came", x.count(2), 3);
        due("read: no room ahead of INDEX", x.read(0, 0, 2, 12), WhoseRound.FULL);
        due("read: INDEX ahead of no room", x.read(0, 0, 3, 12), 9);
        due("read: full", x.read(0, 0, 0, 1), WhoseRound.FULL);
        x.lay(0, 0, -1);
        due("read: no ONE ahead of no room", x.read(0, 0, 0, 1), -20);
        due("read: none, full", x.read(0, 0, 0, 0), 0);
    }

    private static void count() {
        WhoseRound x = Check.tableOf("one 0 1 1 1 poor;one 0 1 1 1;one 0 1 1 1 poor;begin 4;");
        x.book(2);
        x.keep(1);
        x.sheet(0, 2, 7);
        x.feed(0);
        int[] want = {3, 2, 1, 1, 8, 7, 4};
        for (int what = 0; what < 7; what++) {
            due("count " + what, x.count(what), want[what]);
        }
        x.keep(0);
        due("count: both IMAGES", x.count(3), 2);
        due("count: what", x.count(7), WhoseRound.BAD);
        due("count: what below", x.count(-1), WhoseRound.BAD);
    }
}
