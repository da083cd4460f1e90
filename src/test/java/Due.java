import java.nio.charset.StandardCharsets;

/** What the tests share: answers that are due, and texts fed to the tape. */
final class Due {
    private static int wrong = 0;
    private static int calls = 0;

    private Due() { }

    static void due(String call, long got, long want) {
        calls++;
        if (got != want) {
            wrong++;
            if (wrong <= 50) {
                System.out.println(call + " answered " + got + ", due is " + want);
            }
        }
    }

    static void holds(String what, boolean so) {
        due(what, so ? 1 : 0, 1);
    }

    static void close(String test) {
        System.out.println(test + ": " + calls + " answers, " + wrong + " not as due");
        if (wrong != 0 || calls == 0) {
            System.exit(1);
        }
    }

    static byte[] bytes(String text) {
        return text.getBytes(StandardCharsets.ISO_8859_1);
    }

    /** The n-th of the five numbers of the k-th feed of a text. */
    static int number(byte[] text, int feed, int n) {
        int number = 0;
        for (int i = 0; i < 4; i++) {
            int place = feed * 20 + n * 4 + i;
            number = number << 8 | (place < text.length ? text[place] & 255 : 0);
        }
        return number;
    }

    /** Puts a text, and nothing else, on the tape. */
    static void feed(ConkerYard yard, String text) {
        yard.end(0);
        byte[] bytes = bytes(text);
        for (int k = 0; k * 20 < bytes.length; k++) {
            yard.feed(number(bytes, k, 0), number(bytes, k, 1), number(bytes, k, 2), number(bytes, k, 3),
                number(bytes, k, 4));
        }
        if (yard.end(bytes.length) != bytes.length) {
            throw new IllegalStateException("a text too long for the test: " + text);
        }
    }

    static int yard(ConkerYard yard, String text) {
        feed(yard, text);
        return yard.yard();
    }

    static int rule(ConkerYard yard, String text) {
        feed(yard, text);
        return yard.rule();
    }

    static ConkerYard with(String text, String... rules) {
        ConkerYard yard = new ConkerYard();
        if (yard(yard, text) < 0) {
            throw new IllegalStateException("a yard with a fault: " + text);
        }
        for (String rule : rules) {
            if (rule(yard, rule) < 0) {
                throw new IllegalStateException("a rule with a fault: " + rule);
            }
        }
        return yard;
    }

    /** A yard with one rule, which is in force. */
    static ConkerYard under(String text, String rule) {
        ConkerYard yard = with(text, rule);
        yard.force(0);
        return yard;
    }

    /** What a text with a fault answers. */
    static int fault(int place, int kind) {
        return -2 - (1 + 8 * place + kind);
    }
}
