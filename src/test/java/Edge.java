import java.io.IOException;
import java.nio.file.Files;
import java.nio.file.Path;
import java.util.Set;
import java.util.TreeSet;
import java.util.function.Supplier;
import java.util.function.ToIntFunction;

/** What the tests of edges share: the sentence of the document that is tested, and calls by which nothing happens. */
final class Edge {
    /** Numbers that are never in place, far off and just behind the ends of an int. */
    static final int[] FAR = {Integer.MIN_VALUE, Integer.MIN_VALUE + 1, -1000, 1000, 65536, Integer.MAX_VALUE};

    private static final Path DOCUMENT = Path.of("../shared/DOC.md");
    private static final Set<String> QUOTES = new TreeSet<>();
    private static String sentence = "";

    private Edge() { }

    /** What follows tests this sentence. */
    static void says(String quote) {
        sentence = quote;
        QUOTES.add(quote);
    }

    static void due(String call, long got, long want) {
        Due.due("'" + sentence + "': " + call, got, want);
    }

    /** An answer, of a yard made for this call, by which nothing changes. */
    static void stays(Supplier<ConkerYard> made, String call, int want, ToIntFunction<ConkerYard> ask) {
        ConkerYard asked = made.get();
        due(call, ask.applyAsInt(asked), want);
        alike(call, asked, made.get());
    }

    /** That all which can be seen of two yards is the same; they are of no use behind this. */
    static void alike(String call, ConkerYard got, ConkerYard want) {
        String seen = everything(got);
        String wanted = everything(want);
        due(call + " leaves " + seen + " and not " + wanted, seen.equals(wanted) ? 1 : 0, 1);
    }

    static String everything(ConkerYard x) {
        StringBuilder seen = new StringBuilder();
        seeNow(x, seen);
        seen.append(" notes ").append(x.ruled(0)).append(' ').append(x.ruled(1));
        for (int c = 0; c < x.count(1); c++) {
            seen.append(' ').append(x.hards(c, 0)).append(' ').append(x.swings(c));
        }
        seeUndone(x, seen);
        int text = x.yard();
        seen.append(" text ").append(text);
        if (text >= 0) {
            seeNow(x, seen);
        }
        for (int k = 0; k < 4; k++) {
            seen.append(" image ").append(x.back(k));
            seeNow(x, seen);
        }
        return seen.toString();
    }

    private static void seeUndone(ConkerYard x, StringBuilder seen) {
        for (int left = x.undo(); left >= 0; left = x.undo()) {
            seen.append(" undone ").append(left);
            for (int what = 4; what <= 7; what++) {
                seen.append(' ').append(x.count(what));
            }
            for (int c = 0; c < x.count(1); c++) {
                seen.append(' ').append(x.conker(c, 0)).append(' ').append(x.conker(c, 1)).append(' ').append(x.conker(c, 2));
            }
        }
    }

    private static void seeNow(ConkerYard x, StringBuilder seen) {
        seen.append(" counts");
        for (int what = 0; what <= 11; what++) {
            seen.append(' ').append(x.count(what));
        }
        for (int c = 0; c < x.count(1); c++) {
            seen.append(" conker");
            for (int what = 0; what <= 4; what++) {
                seen.append(' ').append(x.conker(c, what));
            }
        }
    }

    /**
     * A yard in which there is something of all: 1 is smashed, 2 and 3 have cracks, a text on the tape, two rules, two
     * notes, three acts, images 1 and 3.
     */
    static ConkerYard busy() {
        ConkerYard x = Due.with("yard 3;conker 10 4 2;conker 6 5 0;conker 8 3 1;conker 12 2 5;cracked 1 2",
            "hit worth - score", "hit 1");
        x.image(1);
        x.force(1);
        x.seed(99);
        x.note(0, 1, 0);
        x.note(1, 2, 1);
        x.pickle(3, 4);
        x.round();
        x.bout(2, 3);
        x.image(3);
        Due.feed(x, "yard 7;conker 3 2 1");
        return x;
    }

    /** Told, and not held against the program: quotes that the document has no more want another look. */
    static void close(String test) {
        try {
            String document = Files.readString(DOCUMENT).replaceAll("\\s+", " ");
            for (String quote : QUOTES) {
                if (!document.contains(quote)) {
                    System.out.println("the document does not say '" + quote + "'");
                }
            }
        } catch (IOException unread) {
            System.out.println("the document can't be read: " + unread.getMessage());
        }
        Due.close(test);
    }
}
