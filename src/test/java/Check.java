import java.nio.charset.StandardCharsets;

/** What every test needs: answers looked at, a text put on THE TAPE, the exit code. */
final class Check {
    private static int wrong = 0;
    private static int looked = 0;

    private Check() {
    }

    static void due(String call, long got, long want) {
        looked++;
        if (got != want) {
            wrong++;
            System.out.println(call + " answered " + got + ", due is " + want);
        }
    }

    static void holds(String what, boolean so) {
        looked++;
        if (!so) {
            wrong++;
            System.out.println(what + " does not hold");
        }
    }

    static boolean anyWrong() {
        return wrong > 0;
    }

    /** Puts a text alone on THE TAPE. */
    static void write(WhoseRound x, String text) {
        x.end(0);
        byte[] bytes = text.getBytes(StandardCharsets.ISO_8859_1);
        for (int i = 0; i < bytes.length; i += 8) {
            x.feed(eightOf(bytes, i));
        }
        x.end(bytes.length);
    }

    /** Eight bytes from place i on, with blanks behind the last. */
    static long eightOf(byte[] bytes, int i) {
        long v = 0;
        for (int k = i; k < i + 8; k++) {
            v = v << 8 | (k < bytes.length ? bytes[k] & 0xff : ' ');
        }
        return v;
    }

    /** A new object with a table that must be taken. */
    static WhoseRound tableOf(String text) {
        WhoseRound x = new WhoseRound();
        write(x, text);
        holds("the table is taken: " + text, x.table() >= 0);
        return x;
    }

    static void finish() {
        System.out.println(wrong == 0 ? looked + " answers are as due" : wrong + " of " + looked + " are not as due");
        if (wrong != 0) {
            System.exit(1);
        }
    }
}
