/** Promises 1 to 7, the text: each sentence of the document that names a boundary, by a test of its own. */
public final class TextBoundariesTest {
    private static final int MIN = Integer.MIN_VALUE, MAX = Integer.MAX_VALUE;
    private static final int BAD_PENCE = -1000000;
    private static final long BLANKS = 0x2020202020202020L;
    private static final int TAPE = 320;

    private TextBoundariesTest() {
    }

    public static void main(String[] args) {
        newObjectHasNothing();
        newObjectsShareNothing();
        feedHighestFirst();
        feedTellsHowMany();
        feedFull();
        endKeepsTheFirst();
        endBad();
        tableOfNothing();
        tableOfAFullTape();
        tableEmptiesTheTape();
        tableLeavesWhatWasTold();
        tableStandsInPlace();
        tableTellsPlaces();
        everyByte();
        tokensAsLongAsMayBe();
        blanks();
        wordsAreWhole();
        longNumbers();
        endOfTheText();
        tokensThatCanNotStand();
        bounds();
        goesBounds();
        toldTwice();
        theNinth();
        firstFaultMet();
        faultIsOfTheLatest();
        oneBad();
        oneOfMany();
        setBounds();
        setComesAheadOfGoes();
        setBad();
        Check.finish();
    }

    private static void due(String call, long got, long want) {
        Check.due(call, got, want);
    }

    /** A text that is taken: how many lines. */
    private static void taken(String promise, String text, int lines) {
        WhoseRound x = new WhoseRound();
        Check.write(x, text);
        due(promise + ": lines of \"" + text + "\"", x.table(), lines);
        due(promise + ": FAULT of \"" + text + "\"", x.fault(), 0);
    }

    private static void fault(String promise, String text, int fault, int place) {
        WhoseRound x = new WhoseRound();
        Check.write(x, text);
        due(promise + ": table of \"" + text + "\"", x.table(), -10 - place);
        due(promise + ": FAULT of \"" + text + "\"", x.fault(), fault);
        due(promise + ": nobody by \"" + text + "\"", x.count(0), 0);
        due(promise + ": begin by \"" + text + "\"", x.count(6), 1);
    }

    /** A whole TAPE of blanks. */
    private static WhoseRound fullTape() {
        WhoseRound x = new WhoseRound();
        for (int i = 0; i < TAPE / 8; i++) {
            x.feed(BLANKS);
        }
        return x;
    }

    // ---- promise 1

    private static void newObjectHasNothing() {
        WhoseRound x = new WhoseRound();
        due("promise 1: nobody", x.count(0), 0);
        due("promise 1: no ONE 0", x.one(0, 0), BAD_PENCE);
        due("promise 1: begin as told at first", x.count(6), 1);
        due("promise 1: no BOOK", x.shut(), 0);
        due("promise 1: THE TAPE is empty", x.end(0), 0);
        due("promise 1: no FAULT", x.fault() + x.torn(), 0);
        due("promise 1: no IMAGE 0", x.back(0), WhoseRound.STATE);
        due("promise 1: no IMAGE 1", x.back(1), WhoseRound.STATE);
        for (int k = 0; k < 4; k++) {
            due("promise 1: SHEET " + k + " has nothing", x.lay(k, 0, 0), -11);
            for (int lane = 0; lane < 3; lane++) {
                due("promise 1: none of SHEET " + k, x.read(k, lane, 0, 1), 0);
                due("promise 1: NULL of SHEET " + k, x.torn(), 1);
            }
        }
        due("promise 1: SHEET 0 is nothing", x.count(5), WhoseRound.NONE);
    }

    private static void newObjectsShareNothing() {
        WhoseRound one = Check.tableOf("one 0 240 5 60;begin 4;");
        one.book(0);
        one.keep(0);
        one.sheet(0, 0, 3);
        one.feed(0);
        WhoseRound other = new WhoseRound();
        int[] counts = {0, 0, 0, 0, 0, WhoseRound.NONE, 1};
        for (int what = 0; what < 7; what++) {
            due("promise 1: of another object, count " + what, other.count(what), counts[what]);
        }
        Check.write(other, "begin 2;");
        other.table();
        due("promise 1: the first is as it was", one.count(0) * 100 + one.count(6) * 10 + one.count(4), 148);
    }

    // ---- promise 2

    private static void feedHighestFirst() {
        for (int place = 0; place < 8; place++) {
            for (long sign : new long[] {'!', 0, 0x80, 0xff}) {
                int shift = 56 - 8 * place;
                WhoseRound x = new WhoseRound();
                x.feed(BLANKS & ~(0xffL << shift) | sign << shift);
                due("promise 2: the highest first, byte " + sign, x.table(), -10 - place);
                due("promise 2: the byte is no TOKEN, " + sign, x.fault(), 1);
            }
        }
        WhoseRound x = new WhoseRound();
        x.feed(BLANKS);
        x.feed('!');
        due("promise 2: behind THE TAPE", x.end(16), 16);
        due("promise 2: NUL comes ahead of the lowest", x.table(), -10 - 8);
    }

    private static void feedTellsHowMany() {
        WhoseRound x = new WhoseRound();
        for (int i = 1; i <= 40; i++) {
            due("promise 2: how many it has", x.feed(-1), 8 * i);
        }
        due("promise 2: as counted", x.count(4), 320);
    }

    private static void feedFull() {
        for (int n = 304; n <= 320; n++) {
            WhoseRound x = fullTape();
            x.end(n);
            boolean fits = n <= 312;
            int want = fits ? n + 8 : WhoseRound.FULL;
            due("promise 2: FULL is more than 320, of " + n, x.feed(0x2121212121212121L), want);
            due("promise 2: FULL changes nothing, of " + n, x.count(4), fits ? n + 8 : n);
            due("promise 2: nothing came by FULL, of " + n, x.table(), fits ? -10 - n : 0);
        }
        WhoseRound x = fullTape();
        due("promise 2: FULL", x.feed(0), WhoseRound.FULL);
        x.end(0);
        due("promise 2: there is room again", x.feed(0), 8);
        x.table();
        due("promise 2: behind a table, from the first place on", x.feed(0), 8);
    }

    // ---- promise 3

    private static void endKeepsTheFirst() {
        WhoseRound x = fullTape();
        due("promise 3: all of a full one", x.end(320), 320);
        due("promise 3: 319 of it", x.end(319), 320);
        due("promise 3: how many it had", x.end(8), 319);
        due("promise 3: as many as it has", x.end(8), 8);
        due("promise 3: none", x.end(0), 8);
        due("promise 3: none of none", x.end(0), 0);
        Check.write(x, "begin 8;");
        x.end(7);
        due("promise 3: what is cut is not read", x.table(), -10 - 7);
        Check.write(x, "begin 2;");
        x.end(6);
        x.feed(0x333b202020202020L); // 3;
        due("promise 3: what comes comes behind it", x.table(), 1);
        due("promise 3: and is read", x.count(6), 3);
    }

    private static void endBad() {
        WhoseRound x = new WhoseRound();
        due("promise 3: BAD above none", x.end(1), WhoseRound.BAD);
        due("promise 3: BAD below none", x.end(-1), WhoseRound.BAD);
        Check.write(x, "begin 8;");
        for (int n : new int[] {9, 10, 320, 321, MAX, -1, -8, MIN}) {
            due("promise 3: BAD " + n, x.end(n), WhoseRound.BAD);
            due("promise 3: BAD changes nothing", x.count(4), 8);
        }
        due("promise 3: BAD changes no byte", x.table(), 1);
        WhoseRound full = fullTape();
        due("promise 3: BAD 321", full.end(321), WhoseRound.BAD);
    }

    // ---- promise 4

    private static void tableOfNothing() {
        WhoseRound x = Check.tableOf("one 0 1 1 1;begin 5;");
        due("promise 4: of an empty TAPE", x.table(), 0);
        due("promise 4: nobody then", x.count(0), 0);
        due("promise 4: begin is as at first then", x.count(6), 1);
        due("promise 4: of 320 blanks", fullTape().table(), 0);
        taken("promise 4", " ", 0);
        taken("promise 4", "begin 1;", 1);
    }

    private static void tableOfAFullTape() {
        String line = "one 0 240 99 99 purse 999 part 9 poor;";
        WhoseRound x = Check.tableOf(line.repeat(8) + "begin 8;        ");
        due("promise 4: 320 bytes, PEOPLE", x.count(0), 8);
        due("promise 4: 320 bytes, begin", x.count(6), 8);
        int[] want = {0, 240, 99, 99, 999, 9, 1, 0};
        for (int what = 0; what < 8; what++) {
            due("promise 4: 320 bytes, the last ONE's " + what, x.one(7, what), want[what]);
        }
        taken("promise 4", " ".repeat(312) + "begin 8;", 1);
        fault("promise 4", " ".repeat(319) + "!", 1, 319);
        fault("promise 4", " ".repeat(319) + "z", 2, 319);
        fault("promise 4", " ".repeat(315) + "begin", 2, 320);
        fault("promise 4", " ".repeat(309) + "one 0 1 1 1", 2, 320);
    }

    private static void tableEmptiesTheTape() {
        WhoseRound x = new WhoseRound();
        for (String text : new String[] {"", " ", "begin 1;", "!", "rich", "begin 9;", "begin 1;begin 1;", "one"}) {
            Check.write(x, text);
            x.table();
            due("promise 4: THE TAPE is empty behind \"" + text + "\"", x.count(4), 0);
            due("promise 4: no byte of it is left", x.table(), 0);
        }
    }

    private static void tableLeavesWhatWasTold() {
        String[] texts = {"one 0 1 1 1;!", "one 0 1 1 1;rich", "one 0 1 1 1;begin 2;begin 9", "begin 3;begin 4;",
            "one 0 1 1 1;".repeat(9), "begin 7;one 0 1 1 1"};
        for (String text : texts) {
            WhoseRound x = Check.tableOf("one 0 240 5 60;one 0 240 7 60;begin 2;");
            x.set(1, 7, -3);
            x.think(0, 9);
            x.book(1);
            Check.write(x, text);
            x.table();
            String promise = "promise 4: what was told stays by a FAULT of \"" + text + "\"";
            due(promise + ", PEOPLE", x.count(0), 2);
            due(promise + ", begin", x.count(6), 2);
            due(promise + ", the BOOK", x.count(2), 1);
            due(promise + ", its buyer", x.round(5, 0, 0, 1), 1);
            due(promise + ", CARRIED", x.one(1, 7), -3);
            due(promise + ", THOUGHT", x.think(0, 9), 9);
            due(promise + ", GOES", x.one(0, 1), 240);
        }
    }

    private static void tableStandsInPlace() {
        WhoseRound x = Check.tableOf("one 5 9 5 60 poor part 3 purse 7;one 0 240 7 60;one 1 2 3 4;begin 3;");
        x.set(0, 7, 12);
        x.think(0, 5);
        x.think(1, 6);
        x.book(2);
        x.keep(0);
        x.keep(1);
        x.sheet(0, 2, 40);
        x.sheet(3, 0, 1);
        Check.write(x, "one 0 240 8 61;");
        due("promise 4: in place of what there was", x.table(), 1);
        due("promise 4: fewer PEOPLE", x.count(0), 1);
        due("promise 4: no ONE 1", x.one(1, 0), BAD_PENCE);
        int[] want = {0, 240, 8, 61, 999, 1, 0, 0};
        for (int what = 0; what < 8; what++) {
            due("promise 4: what no line tells is as at first, " + what, x.one(0, what), want[what]);
        }
        due("promise 4: begin is as at first", x.count(6), 1);
        due("promise 4: no BOOK", x.count(2), 0);
        due("promise 4: nothing THOUGHT", x.think(0, 0), 0);
        due("promise 4: IMAGES stay", x.count(3), 2);
        due("promise 4: SHEET 0 stays", x.count(5), 40);
        due("promise 4: SHEET 3 stays", x.lay(3, 0, 0), 1);
        Check.write(x, "one 0 1 1 1;one 0 1 1 1;");
        x.table();
        due("promise 4: nothing THOUGHT of who comes again", x.think(1, 0), 0);
        due("promise 4: an IMAGE is as it was", x.back(1), 3);
        due("promise 4: and its begin", x.count(6), 3);
        String eight = "one 0 9 1 9;".repeat(8);
        WhoseRound all = Check.tableOf(eight);
        for (int p = 0; p < 8; p++) {
            all.think(p, 9);
            all.set(p, 7, 9);
        }
        Check.write(all, eight);
        all.table();
        for (int p = 0; p < 8; p++) {
            due("promise 4: nothing THOUGHT of any of eight", all.think(p, 0), 0);
            due("promise 4: nothing CARRIED by any of eight", all.one(p, 7), 0);
        }
    }

    private static void tableTellsPlaces() {
        for (int place = 0; place < 320; place += 29) {
            fault("promise 4", " ".repeat(place) + "!", 1, place);
            fault("promise 4", " ".repeat(place) + ";", 2, place);
        }
    }

    // ---- the TOKENS

    private static void everyByte() {
        for (int sign = 0; sign < 256; sign++) {
            boolean letter = sign >= 'a' && sign <= 'z', figure = sign >= '0' && sign <= '9';
            boolean token = letter || figure || sign == ';';
            String text = String.valueOf((char) sign);
            if (sign == ' ') {
                taken("promise 4, a blank", text, 0);
                fault("promise 4, a blank in a line", "one 0 1 1 1 ", 2, 12);
            } else {
                fault("promise 4, byte " + sign + " begins no line", text, token ? 2 : 1, 0);
                if (sign != ';') {
                    fault("promise 4, byte " + sign + " in a line", "one 0 1 1 1 " + text, token ? 2 : 1, 12);
                }
            }
        }
        fault("promise 4, NUL on THE TAPE", "one\0000 1 1 1;", 1, 3);
        fault("promise 4, a tab is no blank", "\tbegin 1;", 1, 0);
    }

    private static void tokensAsLongAsMayBe() {
        fault("promise 4, a NAME as long as may be", "oneone 0", 2, 0);
        fault("promise 4, a NAME as long as may be", "beginbegin 1;", 2, 0);
        fault("promise 4, a NAME as long as may be", "one 0 1 1 1 poorpoor;", 2, 12);
        fault("promise 4, a NUMBER as long as may be", "one 0 1 11;", 2, 10);
        fault("promise 4, a NUMBER as long as may be", "one 0 24 11 112;", 3, 12);
        fault("promise 4, a NAME is cut by a sign", "one 0 1 1 1 po-or;", 2, 12);
        taken("promise 4, as long as may be", "one0 1 1 1poor purse9part9;begin1;", 2);
    }

    private static void blanks() {
        taken("promise 4, no blank where none is needed", "one0 1 1 1;one0 1 1 1;begin8;", 3);
        taken("promise 4, any number of blanks", "   one   0   1   1   1   purse   3   ;   begin   8   ;   ", 2);
        WhoseRound x = Check.tableOf("one1 240 12 99part0purse0poor;begin7;");
        int[] want = {1, 240, 12, 99, 0, 0, 1, 0};
        for (int what = 0; what < 8; what++) {
            due("promise 4: no blank but between NUMBERS, " + what, x.one(0, what), want[what]);
        }
        due("promise 4: no blank ahead of a NUMBER", x.count(6), 7);
    }

    private static void wordsAreWhole() {
        String[] words = {"o", "on", "onf", "nne", "ones", "b", "begi", "begins", "begim", "purse", "z"};
        for (String word : words) {
            fault("promise 4, no line begins by it", word + " 1 2 3 4;", 2, 0);
        }
        String[] withs = {"p", "purs", "purses", "qurse", "par", "parts", "pars", "poo", "poors", "poot", "one",
            "begin"};
        for (String with : withs) {
            fault("promise 4, it is no with", "one 0 1 1 1 " + with + " 1;", 2, 12);
        }
    }

    private static void longNumbers() {
        taken("promise 4, a NUMBER of 3 figures", "one 000 001 001 001 part 009 purse 000;begin 008;", 2);
        fault("promise 4, FAULT 1 at a long NUMBER's first byte", "one 0000", 1, 4);
        fault("promise 4, FAULT 1 at a long NUMBER's first byte", "one  0001 1 1 1;", 1, 5);
        fault("promise 4, FAULT 1, purse 1000", "one 0 1 1 1 purse 1000;", 1, 18);
        fault("promise 4, FAULT 1, also where no NUMBER can stand", "1000", 1, 0);
        fault("promise 4, FAULT 1, also behind a with", "one 0 1 1 1 poor 0000;", 1, 17);
        fault("promise 4, FAULT 1 of a NUMBER beyond an int", "begin 4294967297;", 1, 6);
        fault("promise 4, FAULT 1 of a NUMBER beyond a long", "begin 18446744073709551617;", 1, 6);
        fault("promise 4, FAULT 1 of a NUMBER over all THE TAPE", "1".repeat(320), 1, 0);
    }

    private static void endOfTheText() {
        String line = "one 0 1 1 1 purse 3 part 2";
        for (int place : new int[] {3, 4, 5, 7, 9, 11, 12, 17, 18, 19, 24, 25, 26}) {
            fault("promise 4, FAULT 2 at the end: the length", line.substring(0, place), 2, place);
        }
        fault("promise 4, FAULT 2 at the end behind blanks: the length", "one   ", 2, 6);
        fault("promise 4, FAULT 2 at the end of begin", "begin", 2, 5);
        fault("promise 4, FAULT 2 at the end of begin", "begin 1  ", 2, 9);
        fault("promise 4, FAULT 2 at the end behind a line", "begin 1;one", 2, 11);
    }

    private static void tokensThatCanNotStand() {
        fault("promise 4, FAULT 2: a sign begins no line", " ;", 2, 1);
        fault("promise 4, FAULT 2: a second sign", "begin 1;;", 2, 8);
        fault("promise 4, FAULT 2: a NUMBER begins no line", "begin 1;1;", 2, 8);
        fault("promise 4, FAULT 2: a NAME for COMES", "one x", 2, 4);
        fault("promise 4, FAULT 2: a sign for COMES", "one;", 2, 3);
        fault("promise 4, FAULT 2: a sign for GOES", "one 0;", 2, 5);
        fault("promise 4, FAULT 2: a sign for the PRICE", "one 0 1;", 2, 7);
        fault("promise 4, FAULT 2: a with for the minutes", "one 0 1 1 poor;", 2, 10);
        fault("promise 4, FAULT 2: a fifth NUMBER", "one 0 1 1 1 1;", 2, 12);
        fault("promise 4, FAULT 2: purse of nothing", "one 0 1 1 1 purse;", 2, 17);
        fault("promise 4, FAULT 2: purse of a NAME", "one 0 1 1 1 purse poor;", 2, 18);
        fault("promise 4, FAULT 2: part of nothing", "one 0 1 1 1 part;", 2, 16);
        fault("promise 4, FAULT 2: a NUMBER behind a with's", "one 0 1 1 1 part 1 1;", 2, 19);
        fault("promise 4, FAULT 2: poor has no NUMBER", "one 0 1 1 1 poor 1;", 2, 17);
        fault("promise 4, FAULT 2: a line ends by a sign", "one 0 1 1 1 one 0 1 1 1;", 2, 12);
        fault("promise 4, FAULT 2: begin of nothing", "begin;", 2, 5);
        fault("promise 4, FAULT 2: begin of a NAME", "begin one;", 2, 6);
        fault("promise 4, FAULT 2: begin of two NUMBERS", "begin 1 2;", 2, 8);
        fault("promise 4, FAULT 2: begin has no with", "begin 1 poor;", 2, 8);
    }

    /** What stands ahead of a NUMBER, and behind it; that NUMBER's least and most. */
    private static void bound(String ahead, String behind, int least, int most) {
        for (int v : new int[] {least, most}) {
            taken("promise 4, within its bounds", ahead + v + behind, 1);
        }
        if (least > 0) {
            fault("promise 4, FAULT 3: below", ahead + (least - 1) + behind, 3, ahead.length());
        }
        if (most < 999) {
            fault("promise 4, FAULT 3: above", ahead + (most + 1) + behind, 3, ahead.length());
            fault("promise 4, FAULT 3: far above", ahead + 999 + behind, 3, ahead.length());
        }
    }

    private static void bounds() {
        bound("one ", " 240 1 1;", 0, 239);
        bound("one 0 ", " 1 1;", 1, 240);
        bound("one 100 ", " 1 1;", 101, 240);
        bound("one 239 ", " 1 1;", 240, 240);
        bound("one 0 1 ", " 1;", 1, 99);
        bound("one 0 1 1 ", ";", 1, 99);
        bound("one 0 1 1 1 purse ", ";", 0, 999);
        bound("one 0 1 1 1 part ", ";", 0, 9);
        bound("begin ", ";", 1, 8);
    }

    private static void goesBounds() {
        fault("promise 4, FAULT 3: GOES as it COMES", "one 7 7 1 1;", 3, 6);
        fault("promise 4, FAULT 3: GOES ahead of COMES", "one 7 6 1 1;", 3, 6);
        fault("promise 4, FAULT 3: GOES at 0", "one 0 0 1 1;", 3, 6);
        taken("promise 4, GOES later", "one 7 8 1 1;", 1);
        taken("promise 4, another ONE COMES later than the first GOES", "one 7 8 1 1;one 9 10 1 1;", 2);
        taken("promise 4, another ONE GOES earlier than the first COMES", "one 7 8 1 1;one 0 1 1 1;", 2);
    }

    private static void toldTwice() {
        fault("promise 4, FAULT 4: purse", "one 0 1 1 1 purse 1 purse 1;", 4, 20);
        fault("promise 4, FAULT 4: part", "one 0 1 1 1 part 1 part 1;", 4, 19);
        fault("promise 4, FAULT 4: poor", "one 0 1 1 1 poor  poor;", 4, 18);
        fault("promise 4, FAULT 4: with others between", "one 0 1 1 1 poor part 1 purse 1 poor;", 4, 32);
        fault("promise 4, FAULT 4: begin", "begin 1;begin 1;", 4, 8);
        fault("promise 4, FAULT 4: begin behind another line", "begin 1;one 0 1 1 1;  begin 1;", 4, 22);
        taken("promise 4, each with once", "one 0 1 1 1 poor part 1 purse 1;", 1);
        taken("promise 4, each with once in a ONE", "one 0 1 1 1 poor part 1;one 0 1 1 1 part 1 poor;", 2);
        WhoseRound x = Check.tableOf("begin 2;");
        Check.write(x, "begin 3;");
        due("promise 4: begin once in a text", x.table(), 1);
        Check.write(x, "begin 3;begin 4;");
        x.table();
        Check.write(x, "begin 5;");
        due("promise 4: begin once in a text, behind a FAULT too", x.table(), 1);
    }

    private static void theNinth() {
        String eight = "one 0 1 1 1;".repeat(8);
        taken("promise 4, eight PEOPLE", eight, 8);
        taken("promise 4, eight PEOPLE and begin", eight + "begin 8;", 9);
        fault("promise 4, FAULT 5", eight + "one 0 1 1 1;", 5, 96);
        fault("promise 4, FAULT 5: its NAME", eight + "begin 1;   one", 5, 107);
        WhoseRound x = Check.tableOf(eight);
        Check.write(x, "one 0 1 1 1;");
        due("promise 4: eight in a text, not in all", x.table(), 1);
    }

    private static void firstFaultMet() {
        fault("promise 4, the first met: 3 ahead of 1", "one 240!", 3, 4);
        fault("promise 4, the first met: 3 ahead of a long NUMBER", "one 0 241 1000;", 3, 6);
        fault("promise 4, the first met: 2 ahead of 1", "rich!", 2, 0);
        fault("promise 4, the first met: 4 ahead of 1", "one 0 1 1 1 poor poor!", 4, 17);
        fault("promise 4, the first met: 4 ahead of 3", "one 0 1 1 1 part 1 part 10;", 4, 19);
        fault("promise 4, the first met: 4 ahead of 1", "begin 1;begin!", 4, 8);
        fault("promise 4, the first met: 5 ahead of 1", "one 0 1 1 1;".repeat(8) + "one!", 5, 96);
        fault("promise 4, the first met: 1 ahead of 2", "one 0 1 1 1! rich", 1, 11);
        fault("promise 4, the first met: 1 ahead of the end", "begin 1!", 1, 7);
        fault("promise 4, the first met: 1 in place of a NUMBER", "begin !", 1, 6);
        fault("promise 4, the first met: 1 in place of COMES", "one !", 1, 4);
        fault("promise 4, the first met: 3 ahead of a missing sign", "begin 9", 3, 6);
    }

    // ---- promises 5 to 7

    private static void faultIsOfTheLatest() {
        WhoseRound x = new WhoseRound();
        due("promise 5: none at first", x.fault(), 0);
        String[] texts = {"!", "z", "begin 0;", "begin 1;begin", "one 0 1 1 1;".repeat(8) + "one"};
        for (int i = 0; i < texts.length; i++) {
            Check.write(x, texts[i]);
            x.table();
            due("promise 5: of the latest", x.fault(), i + 1);
            x.feed(BLANKS);
            x.end(0);
            x.set(0, 9, 9);
            x.read(0, 0, 0, 1);
            due("promise 5: till the next", x.fault(), i + 1);
        }
        due("promise 5: one that is taken", x.table() + x.fault(), 0);
    }

    private static void oneBad() {
        WhoseRound x = Check.tableOf("one 0 240 5 60;one 0 240 7 60;");
        for (int p : new int[] {2, 3, 7, 8, 9, MAX, -1, -8, MIN}) {
            due("promise 6: BAD, no ONE " + p, x.one(p, 0), BAD_PENCE);
        }
        for (int what : new int[] {8, 9, MAX, -1, MIN}) {
            due("promise 6: BAD, what " + what, x.one(0, what), BAD_PENCE);
        }
        x.set(0, 7, -1);
        due("promise 6: CARRIED may be -1", x.one(0, 7), -1);
    }

    private static void oneOfMany() {
        WhoseRound x = Check.tableOf("one 1 2 3 4;one 5 6 7 8 poor;one 9 10 11 12;one 13 14 15 16 part 0;"
            + "one 17 18 19 20;one 21 22 23 24 purse 0;one 25 26 27 28;one 29 30 31 32;");
        for (int p = 0; p < 8; p++) {
            for (int what = 0; what < 4; what++) {
                due("promise 6: numbered as they come", x.one(p, what), 4 * p + what + 1);
            }
            due("promise 6: purse", x.one(p, 4), p == 5 ? 0 : 999);
            due("promise 6: part", x.one(p, 5), p == 3 ? 0 : 1);
            due("promise 6: whether poor", x.one(p, 6), p == 1 ? 1 : 0);
            due("promise 6: CARRIED", x.one(p, 7), 0);
        }
        due("promise 6: no ninth", x.one(8, 0), BAD_PENCE);
    }

    private static void setBounds() {
        int[] least = {0, 6, 1, 1, 0, 0, 0, -99999}, most = {99, 240, 99, 99, 999, 9, 1, 99999};
        for (int what = 0; what < 8; what++) {
            WhoseRound x = Check.tableOf("one 5 100 5 60;");
            int was = x.one(0, what);
            for (int v : new int[] {least[what], most[what]}) {
                due("promise 7: " + what + " becomes " + v, x.set(0, what, v), was);
                due("promise 7: " + what + " is " + v, x.one(0, what), v);
                was = v;
            }
            for (int v : new int[] {least[what] - 1, most[what] + 1, MIN, MAX}) {
                due("promise 7: BAD, " + what + " to " + v, x.set(0, what, v), BAD_PENCE);
                due("promise 7: BAD changes nothing", x.one(0, what), most[what]);
            }
        }
    }

    private static void setComesAheadOfGoes() {
        WhoseRound x = Check.tableOf("one 5 9 5 60;one 0 240 5 60;");
        due("promise 7: COMES as it GOES", x.set(0, 0, 9), BAD_PENCE);
        due("promise 7: COMES later than it GOES", x.set(0, 0, 10), BAD_PENCE);
        due("promise 7: COMES just ahead", x.set(0, 0, 8), 5);
        due("promise 7: GOES as it COMES", x.set(0, 1, 8), BAD_PENCE);
        due("promise 7: GOES ahead of COMES", x.set(0, 1, 7), BAD_PENCE);
        due("promise 7: GOES just behind", x.set(0, 1, 9), 9);
        due("promise 7: COMES at 239", x.set(1, 0, 239), 0);
        due("promise 7: GOES at 239 then", x.set(1, 1, 239), BAD_PENCE);
        due("promise 7: COMES at 240", x.set(1, 0, 240), BAD_PENCE);
        due("promise 7: COMES at 0", x.set(1, 0, 0), 239);
        due("promise 7: GOES at 0", x.set(1, 1, 0), BAD_PENCE);
        due("promise 7: GOES at 1", x.set(1, 1, 1), 240);
        due("promise 7: COMES at 1 then", x.set(1, 0, 1), BAD_PENCE);
        due("promise 7: GOES at 241", x.set(1, 1, 241), BAD_PENCE);
    }

    private static void setBad() {
        WhoseRound x = Check.tableOf("one 0 240 5 60;");
        for (int p : new int[] {1, 7, 8, MAX, -1, MIN}) {
            due("promise 7: BAD, no ONE " + p, x.set(p, 2, 5), BAD_PENCE);
        }
        for (int what : new int[] {8, MAX, -1, MIN}) {
            due("promise 7: BAD, what " + what, x.set(0, what, 1), BAD_PENCE);
        }
        due("promise 7: of nobody", new WhoseRound().set(0, 2, 5), BAD_PENCE);
        x.set(0, 7, -1);
        due("promise 7: what it was may be -1", x.set(0, 7, 0), -1);
    }
}
