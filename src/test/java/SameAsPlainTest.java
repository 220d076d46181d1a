import java.nio.charset.StandardCharsets;
import java.util.Random;

/** Random runs of calls, ordinary and wild, answered by the program and by the document written plainly. */
public final class SameAsPlainTest {
    private static final int RUNS = 2500, CALLS = 110;
    // What an object answers behind its 512th call is free; no turn of a run makes 50 calls.
    private static final int MOST_MADE = 512 - 50;
    private static final int[] WILD = {-1, -2, 7, 8, 9, 12, 13, 40, 41, 60, 61, 99, 100, 239, 240, 241, 999, 1000,
        9999, 10000, -99999, -100000, 99999, 100000, Integer.MIN_VALUE, Integer.MAX_VALUE, Integer.MIN_VALUE + 9};

    private static Random random;
    private static WhoseRound x;
    private static PlainWhoseRound y;
    private static int made;

    private SameAsPlainTest() {
    }

    public static void main(String[] args) {
        for (int run = 0; run < RUNS && !Check.anyWrong(); run++) {
            random = new Random(run);
            x = new WhoseRound();
            y = new PlainWhoseRound();
            made = 0;
            if (random.nextInt(20) > 0) {
                tell(validTable());
            }
            for (int i = 0; i < CALLS && made < MOST_MADE && !Check.anyWrong(); i++) {
                callOne("run " + run + ", call " + i + ": ");
            }
        }
        Check.finish();
    }

    private static int pick(int bound) {
        return random.nextInt(12) == 0 ? WILD[random.nextInt(WILD.length)] : random.nextInt(bound);
    }

    private static int seed() {
        return random.nextBoolean() ? random.nextInt(9) : random.nextInt();
    }

    private static void due(String call, long got, long want, int... args) {
        made++;
        StringBuilder told = new StringBuilder(call);
        for (int arg : args) {
            told.append(' ').append(arg);
        }
        Check.due(told.toString(), got, want);
    }

    private static void callOne(String ahead) {
        int rule = pick(7), seed = seed(), p = pick(4), what = pick(7), i = pick(6);
        switch (random.nextInt(34)) {
            case 0: tell(random.nextInt(3) == 0 ? brokenTable() : validTable()); break;
            case 1: due(ahead + "end", x.end(i), y.end(i), i); break;
            case 2: due(ahead + "table", x.table(), y.table()); break;
            case 3: due(ahead + "fault", x.fault(), y.fault()); break;
            case 4: due(ahead + "one", x.one(p, what), y.one(p, what), p, what); break;
            case 5: case 6: change(ahead, p, pick(8)); break;
            case 7: due(ahead + "evening", x.evening(rule, seed, what), y.evening(rule, seed, what), rule, seed, what); break;
            case 8: rounds(ahead, rule, seed); break;
            case 9: persons(ahead, rule, seed); break;
            case 10: due(ahead + "fairest", x.fairest(seed, what), y.fairest(seed, what), seed, what); break;
            case 11: best(ahead); break;
            case 12: case 13: due(ahead + "book", x.book(p), y.book(p), p); break;
            case 14: shutNowAndThen(ahead); break;
            case 15: due(ahead + "judge", x.judge(rule, seed, i), y.judge(rule, seed, i), rule, seed, i); break;
            case 16: due(ahead + "adopt", x.adopt(), y.adopt()); break;
            case 17: due(ahead + "late", x.late(p, rule, seed, i), y.late(p, rule, seed, i), p, rule, seed, i); break;
            case 18: due(ahead + "slow", x.slow(p, rule, seed, i), y.slow(p, rule, seed, i), p, rule, seed, i); break;
            case 19: sureNowAndThen(ahead, seed, i); break;
            case 20: due(ahead + "right", x.right(rule, seed, p, i), y.right(rule, seed, p, i), rule, seed, p, i); break;
            case 21: lots(ahead, p, what); break;
            case 22: fridays(ahead, rule, seed); break;
            case 23: due(ahead + "goes", x.goes(rule, seed), y.goes(rule, seed), rule, seed); break;
            case 24: coins(ahead); break;
            case 25: thinks(ahead, p); break;
            case 26: due(ahead + "thought", x.thought(rule, seed, i), y.thought(rule, seed, i), rule, seed, i); break;
            case 27: due(ahead + "keep", x.keep(i / 2), y.keep(i / 2), i / 2); break;
            case 28: due(ahead + "back", x.back(i / 2), y.back(i / 2), i / 2); break;
            case 29: sheet(ahead); break;
            case 30: lay(ahead); break;
            case 31: read(ahead); break;
            case 32: feedAnything(ahead); break;
            default: due(ahead + "count", x.count(what), y.count(what), what); break;
        }
    }

    /** Both get a text on THE TAPE and are asked what table it tells. */
    private static void tell(String text) {
        made++;
        int most = Math.min(text.length(), 320);
        byte[] bytes = text.substring(0, most).getBytes(StandardCharsets.ISO_8859_1);
        x.end(0);
        y.end(0);
        for (int i = 0; i < bytes.length; i += 8) {
            long v = Check.eightOf(bytes, i);
            due("feed", x.feed(v), y.feed(v));
        }
        due("end", x.end(bytes.length), y.end(bytes.length));
        due("table of " + text, x.table(), y.table());
        due("fault of " + text, x.fault(), y.fault());
        due("count", x.count(0), y.count(0));
    }

    private static String gap(boolean needed) {
        return random.nextInt(5) == 0 ? "  " : needed || random.nextBoolean() ? " " : "";
    }

    private static String validTable() {
        StringBuilder s = new StringBuilder(gap(false));
        int people = random.nextInt(3) == 0 ? random.nextInt(9) : 1 + random.nextInt(4);
        int lasts = random.nextBoolean() ? 99 : 1 + random.nextInt(70);
        boolean begun = false;
        for (int p = 0; p < people; p++) {
            int comes = random.nextBoolean() ? 0 : random.nextInt(240);
            int goes = random.nextBoolean() ? 240 : comes + 1 + random.nextInt(240 - comes);
            s.append("one").append(gap(false)).append(comes).append(gap(true)).append(goes).append(gap(true));
            s.append(1 + random.nextInt(random.nextBoolean() ? 9 : 99)).append(gap(true));
            s.append(random.nextBoolean() ? lasts : 1 + random.nextInt(99)).append(gap(false));
            if (random.nextInt(8) == 0) {
                s.append("poor").append(gap(true));
            }
            if (random.nextInt(4) == 0) {
                s.append("part").append(gap(false)).append(random.nextInt(10)).append(gap(false));
            }
            if (random.nextInt(4) == 0) {
                s.append("purse").append(gap(false)).append(random.nextInt(90)).append(gap(false));
            }
            s.append(';').append(gap(false));
            if (!begun && random.nextInt(4) == 0) {
                begun = true;
                s.append("begin").append(gap(false)).append(1 + random.nextInt(8)).append(gap(false)).append(';');
            }
        }
        return s.toString();
    }

    private static String brokenTable() {
        StringBuilder s = new StringBuilder(validTable());
        String[] parts = {" ", ";", "one", "begin 3;", "poor", "part 3", "purse 12", "12", "9", "0", "1000", "a", "!",
            "\u00e9", "one 0 1 2 3;", "00", "part", "ones"};
        for (int i = random.nextInt(3); i >= 0; i--) {
            int place = random.nextInt(s.length() + 1);
            if (random.nextBoolean() && place < s.length()) {
                s.delete(place, Math.min(s.length(), place + 1 + random.nextInt(4)));
            } else {
                s.insert(place, parts[random.nextInt(parts.length)]);
            }
        }
        return s.toString();
    }

    private static void change(String ahead, int p, int what) {
        int[] bounds = {240, 241, 30, 100, 120, 10, 2, 41};
        int v = what >= 0 && what < 8 ? pick(bounds[what]) : pick(9);
        if (what == 7 && v >= 0 && v < 41) {
            v -= 20;
        }
        due(ahead + "set", x.set(p, what, v), y.set(p, what, v), p, what, v);
    }

    private static void rounds(String ahead, int rule, int seed) {
        int i = pick(8);
        for (int what = -1; what <= 5; what++) {
            due(ahead + "round", x.round(rule, seed, i, what), y.round(rule, seed, i, what), rule, seed, i, what);
        }
    }

    private static void persons(String ahead, int rule, int seed) {
        int p = pick(8);
        for (int what = -1; what <= 7; what++) {
            due(ahead + "of", x.of(rule, seed, p, what), y.of(rule, seed, p, what), rule, seed, p, what);
        }
    }

    private static void best(String ahead) {
        int what = random.nextInt(20) - 1;
        due(ahead + "best", x.best(what), y.best(what), what);
        due(ahead + "best", x.best(0), y.best(0), 0);
    }

    private static void shutNowAndThen(String ahead) {
        if (random.nextInt(3) == 0) {
            due(ahead + "shut", x.shut(), y.shut());
        }
    }

    private static void sureNowAndThen(String ahead, int seed, int what) {
        if (random.nextInt(25) == 0) {
            due(ahead + "sure", x.sure(seed, what), y.sure(seed, what), seed, what);
        }
    }

    private static void lots(String ahead, int p, int what) {
        due(ahead + "lot", x.lot(p, what), y.lot(p, what), p, what);
        due(ahead + "lot", x.lot(p, what / 2), y.lot(p, what / 2), p, what / 2);
    }

    private static void fridays(String ahead, int rule, int seed) {
        int n = pick(62), what = pick(4);
        due(ahead + "fridays", x.fridays(rule, seed, n, what), y.fridays(rule, seed, n, what), rule, seed, n, what);
    }

    private static void coins(String ahead) {
        if (random.nextInt(3) == 0) {
            evenOut(ahead);
        }
        int what = pick(2);
        due(ahead + "coins", x.coins(what), y.coins(what), what);
    }

    /** What is CARRIED becomes small numbers whose sum is 0. */
    private static void evenOut(String ahead) {
        int sum = 0;
        made++;
        int people = x.count(0);
        for (int p = 0; p < people; p++) {
            int v = p == people - 1 ? -sum : random.nextInt(9) - 4;
            sum += v;
            due(ahead + "set", x.set(p, 7, v), y.set(p, 7, v), p, 7, v);
        }
    }

    private static void thinks(String ahead, int p) {
        made++;
        int v = random.nextBoolean() ? pick(10000) : Math.max(-1, x.of(0, 0, p, 1));
        due(ahead + "think", x.think(p, v), y.think(p, v), p, v);
    }

    private static void sheet(String ahead) {
        int k = pick(4), lane = pick(3), n = pick(41);
        due(ahead + "sheet", x.sheet(k, lane, n), y.sheet(k, lane, n), k, lane, n);
    }

    private static void lay(String ahead) {
        int k = pick(4);
        for (int i = random.nextInt(5) - 1; i < 8; i++) {
            int v = pick(3) + (random.nextBoolean() ? 0 : random.nextInt(8) << (random.nextBoolean() ? 8 : 16));
            due(ahead + "lay", x.lay(k, i, v), y.lay(k, i, v), k, i, v);
        }
        int i = pick(40);
        due(ahead + "lay", x.lay(k, i, i), y.lay(k, i, i), k, i, i);
    }

    private static void read(String ahead) {
        int k = pick(4), lane = pick(3), f = pick(12), n = pick(13);
        due(ahead + "read", x.read(k, lane, f, n), y.read(k, lane, f, n), k, lane, f, n);
        due(ahead + "torn", x.torn(), y.torn());
    }

    private static void feedAnything(String ahead) {
        long v = random.nextBoolean() ? random.nextLong() : 0x2020202020202020L;
        for (int i = random.nextInt(4) == 0 ? 42 : 1; i > 0; i--) {
            due(ahead + "feed " + v, x.feed(v), y.feed(v));
        }
    }
}
