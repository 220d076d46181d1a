import java.math.BigInteger;
import java.util.ArrayList;
import java.util.Arrays;
import java.util.List;
import java.util.regex.Matcher;
import java.util.regex.Pattern;

/**
 * The document once more, written as plainly and as wastefully as can be: every MINUTE is looked at, every row of
 * buyers is tried, fractions are made of all rows. Tests hold the program against it.
 */
final class PlainWhoseRound {
    static final int BAD = -1, STATE = -2, FULL = -3, NONE = -4, BAD_PENCE = -1000000;

    static final class Person {
        int[] fact = {0, 0, 0, 0, 999, 1, 0, 0};
        int thought = 0;

        Person copy() {
            Person p = new Person();
            p.fact = fact.clone();
            p.thought = thought;
            return p;
        }
    }

    static final class State {
        List<Person> people = new ArrayList<>();
        int begin = 1;
        List<Integer> book = new ArrayList<>();

        State copy() {
            State s = new State();
            for (Person p : people) {
                s.people.add(p.copy());
            }
            s.begin = begin;
            s.book.addAll(book);
            return s;
        }
    }

    /** What goes on from one EVENING to the next. */
    static final class Memory {
        int seed;
        int lastBuyer = 7;
        int evenings = 0;
        long[] boughtAt = {-1, -1, -1, -1, -1, -1, -1, -1};
        int[] carried = new int[8];
    }

    static final class Night {
        List<int[]> rounds = new ArrayList<>(); // minute, buyer, cost, got, there
        int[] had = new int[8], paid = new int[8], glasses = new int[8], bought = new int[8], out = new int[8];
        int[] far = new int[8];
        int ever = 0, blocked = 0, cost = 0;
    }

    State now = new State();
    State[] images = new State[2];
    long[][] sheets = new long[4][];
    int[] lanes = new int[4];
    StringBuilder tape = new StringBuilder();
    int tableFault = 0, sheetFault = 0;

    // ---- the text

    int feed(long v) {
        if (tape.length() + 8 > 320) {
            return FULL;
        }
        for (int i = 7; i >= 0; i--) {
            tape.append((char) (v >> 8 * i & 255));
        }
        return tape.length();
    }

    int end(int n) {
        int had = tape.length();
        if (n < 0 || n > had) {
            return BAD;
        }
        tape.setLength(n);
        return had;
    }

    static final class Fault extends RuntimeException {
        private static final long serialVersionUID = 1;
        final int what, place;

        Fault(int what, int place) {
            this.what = what;
            this.place = place;
        }
    }

    static final Pattern TOKEN = Pattern.compile(" *([a-z]+|[0-9]+|;)");

    /** The TOKENS of a text, each taken when it is asked for. */
    static final class Tokens {
        final String text;
        int at = 0, place = 0;

        Tokens(String text) {
            this.text = text;
        }

        /** The next TOKEN, or "" at the end. */
        String next() {
            Matcher m = TOKEN.matcher(text);
            m.region(at, text.length());
            if (m.lookingAt()) {
                place = m.start(1);
                at = m.end();
                if (Character.isDigit(m.group(1).charAt(0)) && m.group(1).length() > 3) {
                    throw new Fault(1, place);
                }
                return m.group(1);
            }
            place = at;
            while (place < text.length() && text.charAt(place) == ' ') {
                place++;
            }
            if (place < text.length()) {
                throw new Fault(1, place);
            }
            return "";
        }

        int number(int least, int most) {
            String token = next();
            if (token.isEmpty() || !Character.isDigit(token.charAt(0))) {
                throw new Fault(2, place);
            }
            int v = Integer.parseInt(token);
            if (v < least || v > most) {
                throw new Fault(3, place);
            }
            return v;
        }
    }

    int table() {
        Tokens tokens = new Tokens(tape.toString());
        tape.setLength(0);
        State told = new State();
        int lines = 0;
        boolean begun = false;
        try {
            for (String word = tokens.next(); !word.isEmpty(); word = tokens.next()) {
                if (word.equals("one")) {
                    if (told.people.size() == 8) {
                        throw new Fault(5, tokens.place);
                    }
                    told.people.add(person(tokens));
                } else if (word.equals("begin")) {
                    if (begun) {
                        throw new Fault(4, tokens.place);
                    }
                    begun = true;
                    told.begin = tokens.number(1, 8);
                    if (!tokens.next().equals(";")) {
                        throw new Fault(2, tokens.place);
                    }
                } else {
                    throw new Fault(2, tokens.place);
                }
                lines++;
            }
        } catch (Fault f) {
            tableFault = f.what;
            return -10 - f.place;
        }
        tableFault = 0;
        now = told;
        return lines;
    }

    static Person person(Tokens tokens) {
        Person p = new Person();
        p.fact[0] = tokens.number(0, 239);
        p.fact[1] = tokens.number(p.fact[0] + 1, 240);
        p.fact[2] = tokens.number(1, 99);
        p.fact[3] = tokens.number(1, 99);
        List<String> seen = new ArrayList<>();
        for (String word = tokens.next(); !word.equals(";"); word = tokens.next()) {
            if (!List.of("purse", "part", "poor").contains(word)) {
                throw new Fault(2, tokens.place);
            }
            if (seen.contains(word)) {
                throw new Fault(4, tokens.place);
            }
            seen.add(word);
            if (word.equals("purse")) {
                p.fact[4] = tokens.number(0, 999);
            } else if (word.equals("part")) {
                p.fact[5] = tokens.number(0, 9);
            } else {
                p.fact[6] = 1;
            }
        }
        return p;
    }

    int fault() {
        return tableFault;
    }

    boolean isOne(int p) {
        return p >= 0 && p < now.people.size();
    }

    int one(int p, int what) {
        return isOne(p) && what >= 0 && what <= 7 ? now.people.get(p).fact[what] : BAD_PENCE;
    }

    int set(int p, int what, int v) {
        if (!isOne(p) || what < 0 || what > 7) {
            return BAD_PENCE;
        }
        int[] fact = now.people.get(p).fact;
        boolean as = false;
        switch (what) {
            case 0: as = v >= 0 && v < fact[1] && v <= 239; break;
            case 1: as = v > fact[0] && v <= 240; break;
            case 2: case 3: as = v >= 1 && v <= 99; break;
            case 4: as = v >= 0 && v <= 999; break;
            case 5: as = v >= 0 && v <= 9; break;
            case 6: as = v == 0 || v == 1; break;
            default: as = v >= -99999 && v <= 99999; break;
        }
        if (!as) {
            return BAD_PENCE;
        }
        int was = fact[what];
        fact[what] = v;
        return was;
    }

    // ---- an evening

    Memory fresh(int seed) {
        Memory m = new Memory();
        m.seed = seed;
        for (int p = 0; p < now.people.size(); p++) {
            m.carried[p] = now.people.get(p).fact[7];
        }
        return m;
    }

    Night play(int rule, Memory memory, boolean purses) {
        Night night = new Night();
        int n = now.people.size();
        boolean[] there = new boolean[n];
        boolean[] gone = new boolean[n];
        int[] emptySince = new int[n]; // -1: has a glass
        int[] gotAt = new int[n];
        for (int minute = 0; minute < 240; minute++) {
            for (int p = 0; p < n; p++) {
                int[] fact = now.people.get(p).fact;
                if (minute == fact[0]) {
                    there[p] = true;
                    emptySince[p] = minute;
                }
                if (minute == fact[1]) {
                    there[p] = false;
                    gone[p] = true;
                    night.far[p] = Math.abs(outOf(night, memory, p));
                }
                if (there[p] && emptySince[p] == -1 && minute - gotAt[p] == fact[3]) {
                    emptySince[p] = minute;
                }
            }
            List<Integer> present = new ArrayList<>(), empties = new ArrayList<>();
            for (int p = 0; p < n; p++) {
                if (there[p]) {
                    present.add(p);
                    if (emptySince[p] >= 0) {
                        empties.add(p);
                    }
                }
            }
            boolean wanted = empties.size() >= now.begin || !present.isEmpty() && empties.size() == present.size();
            if (!wanted || night.rounds.size() == 40) {
                continue;
            }
            List<Integer> takers = new ArrayList<>(empties);
            int buyer = NONE;
            int cost = 0;
            if (rule == 6) {
                takers.removeIf(p -> leftOf(night, p) < now.people.get(p).fact[2]);
                for (int p : takers) {
                    cost += now.people.get(p).fact[2];
                    night.paid[p] += now.people.get(p).fact[2];
                }
                if (takers.isEmpty()) {
                    night.blocked++;
                    continue;
                }
            } else {
                for (int p : takers) {
                    cost += now.people.get(p).fact[2];
                }
                List<Integer> able = new ArrayList<>();
                for (int p : present) {
                    if (now.people.get(p).fact[6] == 0 && (!purses || leftOf(night, p) >= cost)) {
                        able.add(p);
                    }
                }
                if (able.isEmpty()) {
                    night.blocked++;
                    continue;
                }
                buyer = choose(rule, memory, night, able, emptySince);
                night.paid[buyer] += cost;
                night.bought[buyer]++;
                memory.lastBuyer = buyer;
                memory.boughtAt[buyer] = memory.evenings * 240L + minute;
            }
            for (int p : takers) {
                night.had[p] += now.people.get(p).fact[2];
                night.glasses[p]++;
                emptySince[p] = -1;
                gotAt[p] = minute;
            }
            night.cost += cost;
            night.rounds.add(new int[] {minute, buyer, cost, bits(takers), bits(present)});
            for (int p : present) {
                night.ever = Math.max(night.ever, Math.abs(outOf(night, memory, p)));
            }
        }
        for (int p = 0; p < n; p++) {
            night.out[p] = outOf(night, memory, p);
            if (!gone[p]) {
                night.far[p] = Math.abs(night.out[p]);
            }
            memory.carried[p] = night.out[p];
        }
        memory.evenings++;
        return night;
    }

    static int bits(List<Integer> who) {
        int bits = 0;
        for (int p : who) {
            bits += 1 << p;
        }
        return bits;
    }

    int leftOf(Night night, int p) {
        return now.people.get(p).fact[4] - night.paid[p];
    }

    static int outOf(Night night, Memory memory, int p) {
        return night.paid[p] - night.had[p] + memory.carried[p];
    }

    int choose(int rule, Memory memory, Night night, List<Integer> able, int[] emptySince) {
        int best = able.get(0);
        switch (rule) {
            case 1:
                for (int p : able) {
                    if (outOf(night, memory, p) < outOf(night, memory, best)) {
                        best = p;
                    }
                }
                return best;
            case 2:
                for (int p : able) {
                    int since = emptySince[p] < 0 ? 1000 : emptySince[p];
                    int bestSince = emptySince[best] < 0 ? 1000 : emptySince[best];
                    if (since < bestSince) {
                        best = p;
                    }
                }
                return best;
            case 3:
                memory.seed = memory.seed * 1103515245 + 12345;
                return able.get((memory.seed >> 16 & 32767) % able.size());
            case 4:
                for (int p : able) {
                    if (memory.boughtAt[p] < memory.boughtAt[best]) {
                        best = p;
                    }
                }
                return best;
            case 5:
                int i = night.rounds.size();
                if (i < now.book.size() && able.contains(now.book.get(i))) {
                    return now.book.get(i);
                }
                return turn(memory.lastBuyer, able);
            default:
                return turn(memory.lastBuyer, able);
        }
    }

    static int turn(int last, List<Integer> able) {
        for (int p : able) {
            if (p > last) {
                return p;
            }
        }
        return able.get(0);
    }

    Night night(int rule, int seed) {
        return play(rule, fresh(seed), true);
    }

    static boolean isRule(int rule) {
        return rule >= 0 && rule <= 6;
    }

    int worst(Night night) {
        return Arrays.stream(night.far).max().getAsInt();
    }

    int evening(int rule, int seed, int what) {
        if (!isRule(rule) || what < 0 || what > 6) {
            return BAD;
        }
        Memory memory = fresh(seed);
        Night night = play(rule, memory, true);
        switch (what) {
            case 0: return night.rounds.size();
            case 1: return night.cost;
            case 2: return worst(night);
            case 3:
                for (int p = 0; p < now.people.size(); p++) {
                    if (night.far[p] == worst(night)) {
                        return p;
                    }
                }
                return NONE;
            case 4: return night.ever;
            case 5: return night.blocked;
            default: return memory.seed;
        }
    }

    int round(int rule, int seed, int i, int what) {
        if (!isRule(rule) || what < 0 || what > 4) {
            return BAD;
        }
        List<int[]> rounds = night(rule, seed).rounds;
        return i < 0 || i >= rounds.size() ? BAD : rounds.get(i)[what];
    }

    int of(int rule, int seed, int p, int what) {
        if (!isRule(rule) || !isOne(p) || what < 0 || what > 6) {
            return BAD_PENCE;
        }
        Night night = night(rule, seed);
        return new int[] {night.had[p], night.paid[p], night.glasses[p], night.bought[p], night.out[p], night.far[p],
            leftOf(night, p)}[what];
    }

    int fairest(int seed, int what) {
        if (what < 0 || what > 3) {
            return BAD;
        }
        if (now.people.isEmpty()) {
            return STATE;
        }
        int[] far = new int[7];
        for (int rule = 0; rule < 7; rule++) {
            Night night = night(rule, seed);
            far[rule] = what % 2 == 0 ? worst(night) : night.ever;
        }
        int least = Arrays.stream(far).min().getAsInt();
        for (int rule = 0; rule < 7 && what < 2; rule++) {
            if (far[rule] == least) {
                return rule;
            }
        }
        return least;
    }

    // ---- known beforehand, told

    List<List<Integer>> ablePerRound(Night night) {
        List<List<Integer>> all = new ArrayList<>();
        for (int[] round : night.rounds) {
            List<Integer> able = new ArrayList<>();
            for (int p = 0; p < now.people.size(); p++) {
                if ((round[4] & 1 << p) != 0 && now.people.get(p).fact[6] == 0) {
                    able.add(p);
                }
            }
            all.add(able);
        }
        return all;
    }

    /** The row of BEST with its WORST behind it; or one number below 0: STATE, NONE. */
    int[] bestRow() {
        Night night = play(0, fresh(0), false);
        int rounds = night.rounds.size();
        if (rounds > 6) {
            return new int[] {STATE};
        }
        if (night.blocked > 0) {
            return new int[] {NONE};
        }
        List<List<Integer>> able = ablePerRound(night);
        int[] pick = new int[rounds];
        int[] best = null;
        while (true) {
            int[] out = new int[8];
            for (int p = 0; p < now.people.size(); p++) {
                out[p] = now.people.get(p).fact[7] - night.had[p];
            }
            for (int i = 0; i < rounds; i++) {
                out[able.get(i).get(pick[i])] += night.rounds.get(i)[2];
            }
            int worst = Arrays.stream(out).map(Math::abs).max().getAsInt();
            if (best == null || worst < best[rounds]) {
                best = new int[rounds + 1];
                for (int i = 0; i < rounds; i++) {
                    best[i] = able.get(i).get(pick[i]);
                }
                best[rounds] = worst;
            }
            int i = rounds - 1;
            while (i >= 0 && ++pick[i] == able.get(i).size()) {
                pick[i--] = 0;
            }
            if (i < 0) {
                return best;
            }
        }
    }

    int best(int what) {
        if (what != 0 && what != 1 && !(what >= 10 && what <= 15)) {
            return BAD;
        }
        int[] row = bestRow();
        int rounds = row.length - 1;
        if (rounds == 0 && row[0] < 0) {
            return row[0];
        }
        if (what < 2) {
            return what == 0 ? row[rounds] : rounds;
        }
        return what - 10 < rounds ? row[what - 10] : BAD;
    }

    int book(int p) {
        if (!isOne(p)) {
            return BAD;
        }
        if (now.book.size() == 12) {
            return FULL;
        }
        now.book.add(p);
        return now.book.size();
    }

    int shut() {
        int had = now.book.size();
        now.book.clear();
        return had;
    }

    int judge(int rule, int seed, int what) {
        if (!isRule(rule) || what < 0 || what > 1) {
            return BAD;
        }
        List<int[]> rounds = night(rule, seed).rounds;
        for (int i = 0; i < rounds.size() && i < now.book.size(); i++) {
            if (rounds.get(i)[1] != now.book.get(i)) {
                return what == 0 ? i : rounds.get(i)[1];
            }
        }
        return NONE;
    }

    int adopt() {
        int[] row = bestRow();
        if (row.length == 1 && row[0] < 0) {
            return row[0];
        }
        now.book.clear();
        for (int i = 0; i < row.length - 1; i++) {
            now.book.add(row[i]);
        }
        return now.book.size();
    }

    // ---- who gains

    int[] gain(int p, int fact, int from, int to, int rule, int seed) {
        int[] facts = now.people.get(p).fact;
        int was = facts[fact];
        int out = night(rule, seed).out[p];
        int[] best = {0, was};
        for (int v = from; v <= to; v++) {
            facts[fact] = v;
            int gain = out - night(rule, seed).out[p];
            if (gain > best[0]) {
                best = new int[] {gain, v};
            }
        }
        facts[fact] = was;
        return best;
    }

    int late(int p, int rule, int seed, int what) {
        if (!isOne(p) || !isRule(rule) || what < 0 || what > 1) {
            return BAD;
        }
        return gain(p, 0, 0, one(p, 1) - 1, rule, seed)[what];
    }

    int slow(int p, int rule, int seed, int what) {
        if (!isOne(p) || !isRule(rule) || what < 0 || what > 1) {
            return BAD;
        }
        return gain(p, 3, 1, 99, rule, seed)[what];
    }

    int sure(int seed, int what) {
        if (what < 0 || what > 1) {
            return BAD;
        }
        if (now.people.isEmpty()) {
            return STATE;
        }
        int[] best = null;
        for (int rule = 0; rule < 7; rule++) {
            int greatest = 0;
            for (int p = 0; p < now.people.size(); p++) {
                greatest = Math.max(greatest, gain(p, 3, 1, 99, rule, seed)[0]);
            }
            if (best == null || greatest < best[1]) {
                best = new int[] {rule, greatest};
            }
        }
        return best[what];
    }

    // ---- what is right

    static long fraction(BigInteger numerator, BigInteger denominator, boolean top) {
        BigInteger divisor = numerator.gcd(denominator);
        return (top ? numerator : denominator).divide(divisor).longValueExact();
    }

    long right(int rule, int seed, int p, int what) {
        if (!isRule(rule) || !isOne(p) || what < 0 || what > 1) {
            return BAD;
        }
        long parts = now.people.stream().mapToLong(q -> q.fact[5]).sum();
        if (parts == 0) {
            return STATE;
        }
        long numerator = (long) night(rule, seed).cost * one(p, 5);
        return fraction(BigInteger.valueOf(numerator), BigInteger.valueOf(parts), what == 0);
    }

    /** Sums, over all rows of buyers, how many rows there are, what a ONE has PAID, the squares of that. */
    long lot(int p, int what) {
        if (!isOne(p) || what < 0 || what > 3) {
            return BAD;
        }
        Night night = play(0, fresh(0), false);
        if (night.blocked > 0) {
            return NONE;
        }
        BigInteger rows = BigInteger.ONE, sum = BigInteger.ZERO, squares = BigInteger.ZERO;
        List<List<Integer>> able = ablePerRound(night);
        for (int i = 0; i < able.size(); i++) {
            BigInteger all = BigInteger.valueOf(able.get(i).size());
            if (!able.get(i).contains(p)) {
                rows = rows.multiply(all);
                sum = sum.multiply(all);
                squares = squares.multiply(all);
                continue;
            }
            // In one of all rows the ONE buys: PAID is more by the COST there.
            BigInteger cost = BigInteger.valueOf(night.rounds.get(i)[2]);
            squares = squares.multiply(all).add(cost.multiply(sum).shiftLeft(1)).add(cost.multiply(cost).multiply(rows));
            sum = sum.multiply(all).add(cost.multiply(rows));
            rows = rows.multiply(all);
        }
        if (what < 2) {
            return fraction(sum, rows, what == 0);
        }
        return fraction(squares.multiply(rows).subtract(sum.multiply(sum)), rows.multiply(rows), what == 2);
    }

    int fridays(int rule, int seed, int n, int what) {
        if (!isRule(rule) || n < 1 || n > 60 || what < 0 || what > 3) {
            return BAD;
        }
        Memory memory = fresh(seed);
        int[] greatest = new int[n];
        int cost = 0;
        for (int i = 0; i < n; i++) {
            Night night = play(rule, memory, true);
            greatest[i] = Arrays.stream(night.out).map(Math::abs).max().getAsInt();
            cost += night.cost;
        }
        switch (what) {
            case 0: return greatest[n - 1];
            case 1: return Arrays.stream(greatest).max().getAsInt();
            case 2:
                for (int i = 0; i < n; i++) {
                    if (greatest[i] == 0) {
                        return i + 1;
                    }
                }
                return NONE;
            default: return cost;
        }
    }

    int goes(int rule, int seed) {
        if (!isRule(rule)) {
            return BAD;
        }
        Night night = night(rule, seed);
        for (int p = 0; p < now.people.size(); p++) {
            now.people.get(p).fact[7] = night.out[p];
        }
        return night.rounds.size();
    }

    int coins(int what) {
        if (what < 0 || what > 1) {
            return BAD;
        }
        long[] out = now.people.stream().mapToLong(q -> q.fact[7]).toArray();
        if (Arrays.stream(out).sum() != 0) {
            return STATE;
        }
        return what == 0 ? fewest(out, 0) : mostSets(out, 0, new long[8], 0);
    }

    /** Lets the first who is OUT pay, or get, all of it from each of those who are OUT the other way. */
    static int fewest(long[] out, int first) {
        while (first < out.length && out[first] == 0) {
            first++;
        }
        if (first == out.length) {
            return 0;
        }
        int fewest = 100;
        for (int i = first + 1; i < out.length; i++) {
            if (out[i] * out[first] < 0) {
                out[i] += out[first];
                fewest = Math.min(fewest, 1 + fewest(out, first + 1));
                out[i] -= out[first];
            }
        }
        return fewest;
    }

    /** Tries every way to part PEOPLE into sets; -1 if none is even. */
    static int mostSets(long[] out, int p, long[] sums, int sets) {
        if (p == out.length) {
            return Arrays.stream(sums).allMatch(v -> v == 0) ? sets : -1;
        }
        int most = -1;
        for (int i = 0; i <= sets && i < 8; i++) {
            sums[i] += out[p];
            most = Math.max(most, mostSets(out, p + 1, sums, Math.max(sets, i + 1)));
            sums[i] -= out[p];
        }
        return most;
    }

    int think(int p, int v) {
        if (!isOne(p) || v < 0 || v > 9999) {
            return BAD;
        }
        int was = now.people.get(p).thought;
        now.people.get(p).thought = v;
        return was;
    }

    int thought(int rule, int seed, int what) {
        if (!isRule(rule) || what < 0 || what > 2) {
            return BAD_PENCE;
        }
        Night night = night(rule, seed);
        int sum = -night.cost, so = 0, most = 0, who = NONE;
        for (int p = now.people.size() - 1; p >= 0; p--) {
            int thinks = now.people.get(p).thought;
            sum += thinks;
            so += thinks == night.paid[p] ? 1 : 0;
            if (thinks > night.paid[p] && thinks - night.paid[p] >= most) {
                most = thinks - night.paid[p];
                who = p;
            }
        }
        return new int[] {sum, so, who}[what];
    }

    // ---- images, sheets

    int keep(int k) {
        if (k != 0 && k != 1) {
            return BAD;
        }
        int was = images[k] == null ? 0 : 1;
        images[k] = now.copy();
        return was;
    }

    int back(int k) {
        if (k != 0 && k != 1) {
            return BAD;
        }
        if (images[k] == null) {
            return STATE;
        }
        now = images[k].copy();
        return now.people.size();
    }

    int sheet(int k, int lane, int n) {
        if (k < 0 || k > 3 || lane < 0 || lane > 2 || n > 40) {
            return BAD;
        }
        if (n < 0) {
            return -14;
        }
        sheets[k] = new long[n];
        lanes[k] = lane;
        return 1;
    }

    int lay(int k, int i, int v) {
        if (k < 0 || k > 3) {
            return BAD;
        }
        if (sheets[k] == null) {
            return -11;
        }
        if (i < 0 || i >= sheets[k].length) {
            return -12;
        }
        sheets[k][i] = lanes[k] == 0 ? (byte) v : lanes[k] == 1 ? (short) v : v;
        return 1;
    }

    int read(int k, int lane, int f, int n) {
        if (k < 0 || k > 3 || lane < 0 || lane > 2 || n < 0 || n > 12) {
            return BAD;
        }
        List<Integer> coming = new ArrayList<>();
        int fault = 0;
        for (int i = 0; i < n && fault == 0; i++) {
            long cell = (long) f + i;
            if (sheets[k] == null) {
                fault = 1;
            } else if (lanes[k] != lane) {
                fault = 3;
            } else if (cell < 0 || cell >= sheets[k].length) {
                fault = 2;
            } else if (sheets[k][(int) cell] < 0 || sheets[k][(int) cell] >= now.people.size()) {
                return -20 - i;
            } else if (now.book.size() + coming.size() == 12) {
                return FULL;
            } else {
                coming.add((int) sheets[k][(int) cell]);
            }
        }
        now.book.addAll(coming);
        sheetFault = fault;
        return coming.size();
    }

    int torn() {
        return sheetFault;
    }

    int count(int what) {
        switch (what) {
            case 0: return now.people.size();
            case 1: return (int) now.people.stream().filter(p -> p.fact[6] == 1).count();
            case 2: return now.book.size();
            case 3: return (images[0] == null ? 0 : 1) + (images[1] == null ? 0 : 1);
            case 4: return tape.length();
            case 5: return sheets[0] == null ? NONE : sheets[0].length;
            case 6: return now.begin;
            default: return BAD;
        }
    }
}
