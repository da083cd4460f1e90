/** Edges of what is asked by the cracks as they are: promises 14 to 21. */
public final class AsItIsEdgesTest {
    private static final int NONE = ConkerYard.NONE;
    private static final int WORST = Integer.MIN_VALUE;
    private static final String QUIET = "yard 1;conker 9 1 0;conker 9 1 0";
    /** With one strike each a conker smashes those that are not harder than it swings. */
    private static final String ALL = "yard 1" + ";conker 1 1 0".repeat(8);
    /** 3 smashes 0 alone, 0 smashes 1 and 2, which smash nobody. */
    private static final String THROUGH = "yard 1;conker 5 9 0;conker 9 1 0;conker 7 1 0;conker 30 5 0";
    /** 0 smashes 1 alone, 1 smashes 2, 2 smashes 3 and 1. */
    private static final String CHAIN = "yard 1;conker 30 2 0;conker 2 4 0;conker 4 6 0;conker 6 1 0";

    public static void main(String[] args) {
        would();
        wouldWrong();
        beats();
        lastOnes();
        ownBouts();
        cupsByNumber();
        cupsWon();
        cupsWrong();
        ladders();
        ladderWrong();
        rings();
        kings();
        Edge.close("AsItIsEdgesTest");
    }

    private static void pair(String text, int one, int other, int who, int strikes) {
        Edge.due(text + ": who, " + one + " at " + other, Due.with(text).would(one, other, 0), who);
        Edge.due(text + ": strikes, " + one + " at " + other, Due.with(text).would(one, other, 1), strikes);
    }

    private static void would() {
        Edge.says("who smashes the other one; how many strikes there are, of both.");
        pair(QUIET, 0, 1, -2, 2);
        pair("yard 9;conker 30 1 0;conker 30 1 0", 1, 0, -2, 18);
        pair("yard 9;conker 30 1 0;conker 1 1 0", 0, 1, 0, 1);
        pair("yard 9;conker 30 1 0;conker 1 1 0", 1, 0, 0, 2);
        pair("yard 2;conker 4 1 0;conker 9 2 0", 0, 1, 1, 4);
        pair("yard 2;conker 9 1 0;conker 2 1 0", 0, 1, 0, 3);
        pair("yard 9;conker 9 1 0;conker 30 1 0", 0, 1, 1, 18);
        pair("yard 9;conker 30 1 0;conker 9 1 0", 0, 1, 0, 17);
        pair("yard 9;conker 30 1 0;conker 10 1 0", 0, 1, -2, 18);
        Edge.says("(each BOUT by CRACKS as they are now, as if there were no other; by what is asked nothing changes)");
        Edge.stays(Edge::busy, "would(0, 2, 0)", 0, x -> x.would(0, 2, 0));
        Edge.stays(Edge::busy, "would(0, 2, 1)", 1, x -> x.would(0, 2, 1));
        Edge.stays(Edge::busy, "would(2, 0, 0)", 0, x -> x.would(2, 0, 0));
        Edge.stays(Edge::busy, "would(2, 0, 1)", 2, x -> x.would(2, 0, 1));
        Edge.stays(Edge::busy, "would(2, 3, 0)", 3, x -> x.would(2, 3, 0));
        Edge.stays(Edge::busy, "would(3, 2, 1)", 1, x -> x.would(3, 2, 1));
    }

    private static void wouldWrong() {
        Edge.says("(-2: none does), 1: how many strikes. NONE without these (unlike, WHOLE).");
        int[][] wrong = {{0, 0, 0}, {0, 1, 0}, {1, 0, 0}, {1, 1, 1}, {0, 4, 0}, {4, 0, 0}, {-1, 0, 0}, {0, -1, 0}, {0, 8, 0},
            {0, 2, -1}, {0, 2, 2}, {0, 2, WORST}, {0, 2, Integer.MAX_VALUE}, {WORST, 0, 0}, {0, WORST, 0},
            {Integer.MAX_VALUE, 0, 0}, {0, Integer.MAX_VALUE, 0}};
        for (int[] row : wrong) {
            Edge.stays(Edge::busy, "would(" + row[0] + ", " + row[1] + ", " + row[2] + ")", NONE,
                x -> x.would(row[0], row[1], row[2]));
        }
        Edge.stays(ConkerYard::new, "would(0, 1, 0)", NONE, x -> x.would(0, 1, 0));
    }

    private static void beats() {
        Edge.says("all others that are WHOLE it would smash, if it strikes first, as bits.");
        Edge.due("all", Due.with(ALL).beats(0), 254);
        Edge.due("all", Due.with(ALL).beats(7), 127);
        Edge.due("none", Due.with(QUIET).beats(1), 0);
        Edge.due("the only one", Due.with("yard 9;conker 1 1 0").beats(0), 0);
        Edge.due("who is struck first would smash", Due.with("yard 1;conker 5 1 0;conker 9 5 0").beats(0), 0);
        Edge.due("who strikes first", Due.with("yard 1;conker 5 1 0;conker 9 5 0").beats(1), 1);
        Edge.stays(Edge::busy, "not those that are smashed", 12, x -> x.beats(0));
        Edge.says("BEATS, as bits; NONE without one that is WHOLE.");
        for (int wrong : new int[] {1, 4, 7, 8, -1, WORST, Integer.MAX_VALUE}) {
            Edge.stays(Edge::busy, "beats(" + wrong + ")", NONE, x -> x.beats(wrong));
            Edge.stays(Edge::busy, "last(" + wrong + ")", NONE, x -> x.last(wrong));
            Edge.stays(Edge::busy, "own(" + wrong + ")", NONE, x -> x.own(wrong));
        }
        Edge.due("without a yard: beats(0)", new ConkerYard().beats(0), NONE);
        Edge.due("without a yard: last(0)", new ConkerYard().last(0), NONE);
        Edge.due("without a yard: own(0)", new ConkerYard().own(0), NONE);
    }

    private static void lasts(String text, int... due) {
        for (int c = 0; c < due.length; c++) {
            Edge.due(text + ": last(" + c + ")", Due.with(text).last(c), due[c]);
        }
    }

    private static void lastOnes() {
        Edge.says("1, if it can be the last one of all that are WHOLE, 0, if not");
        lasts("yard 1;conker 9 1 0", 1);
        lasts(QUIET, 0, 0);
        lasts(THROUGH, 0, 0, 0, 1);
        lasts(CHAIN, 1, 0, 0, 0);
        lasts(ALL, 1, 1, 1, 1, 1, 1, 1, 1);
        lasts("yard 1;conker 9 1 0;conker 30 9 0", 0, 1);
        // 2 can't be smashed by any, nor smash any
        lasts("yard 1;conker 9 9 0;conker 9 9 0;conker 30 1 0", 0, 0, 0);
        ConkerYard x = Due.with(THROUGH);
        x.bout(0, 1);
        Edge.due("with 1 smashed", x.last(3), 1);
        x.bout(3, 0);
        Edge.due("with 0 smashed 2 is too hard", x.last(3), 0);
    }

    private static void owns(String text, int... due) {
        for (int c = 0; c < due.length; c++) {
            Edge.due(text + ": own(" + c + ")", Due.with(text).own(c), due[c]);
        }
    }

    private static void ownBouts() {
        Edge.says("OWN (0: it is the only one); -2: it can't be the last");
        owns("yard 1;conker 9 1 0", 0);
        owns(QUIET, -2, -2);
        Edge.says("the fewest BOUTS it is in by which it is the last so.");
        owns(THROUGH, -2, -2, -2, 1);
        owns(CHAIN, 1, -2, -2, -2);
        owns(ALL, 1, 1, 1, 1, 1, 1, 1, 1);
        // 7 smashes all others, and these nobody
        owns("yard 1" + ";conker 10 1 0".repeat(7) + ";conker 30 20 0", -2, -2, -2, -2, -2, -2, -2, 7);
        // 2 smashes 1, and not the other way about
        owns("yard 1;conker 30 20 0;conker 5 1 0;conker 6 5 0", 1, -2, -2);
        // 1 and 2 smash each other, 3 is too hard for them
        owns("yard 1;conker 30 20 0;conker 5 9 0;conker 5 9 0;conker 20 1 0", 2, -2, -2, -2);
        // the same, with the other numbers
        owns("yard 1;conker 20 1 0;conker 5 9 0;conker 5 9 0;conker 30 20 0", -2, -2, -2, 2);
    }

    private static void cupsByNumber() {
        Edge.says("are 2, 4 or 8 WHOLE");
        int[] due = {315, -3, -3, -3, 3, -3, 1, -3};
        ConkerYard x = Due.with(ALL);
        for (int smashed = 0; smashed < 8; smashed++) {
            if (smashed > 0) {
                Edge.due("bout(7, " + (smashed - 1) + ")", x.bout(7, smashed - 1), smashed - 1);
            }
            Edge.due("cups(NONE) of " + (8 - smashed), x.cups(NONE), due[smashed]);
            Edge.due("cups(7) of " + (8 - smashed), x.cups(7), due[smashed] == -3 ? -3 : 0);
        }
        Edge.due("no conkers", Due.with("yard 1").cups(NONE), -3);
        Edge.due("no conkers", Due.with("yard 1").cups(0), -3);
    }

    private static void won(String text, int... due) {
        for (int c = 0; c < due.length; c++) {
            Edge.due(text + ": cups(" + c + ")", Due.with(text).cups(c), due[c]);
        }
    }

    private static void cupsWon() {
        Edge.says("of each two the lesser number strikes first; who would be smashed is out, is none the greater one is");
        won(QUIET, 1, 0);
        won("yard 1;conker 9 1 0;conker 30 9 0", 0, 1);
        won("yard 1;conker 1 1 0;conker 1 1 0", 1, 0);
        won(ALL, 315, 0, 0, 0, 0, 0, 0, 0);
        won("yard 1" + ";conker 9 1 0".repeat(7) + ";conker 30 20 0", 0, 0, 0, 0, 0, 0, 0, 315);
        // 2 smashes 0, 0 goes on ahead of 1 and 1 ahead of 2; 3 is smashed by all
        won("yard 1;conker 5 4 0;conker 9 4 0;conker 9 5 0;conker 1 1 0", 1, 1, 1, 0);
        ConkerYard again = Due.with(ALL);
        Edge.due("cups(0)", again.cups(0), 315);
        Edge.due("cups(0), asked again", again.cups(0), 315);
        Edge.due("cups(NONE), asked again", again.cups(NONE), 315);
        Edge.says("how many of these that CONKER is the last of (0, if it is not WHOLE; -2: there is none such)");
        ConkerYard two = Due.with("yard 1;conker 1 1 0;conker 9 1 0;conker 9 1 0");
        two.bout(2, 0);
        int[] due = {0, 1, 0, -2, -2, -2, -2, -2};
        for (int c = 0; c < 8; c++) {
            Edge.due("cups(" + c + ")", two.cups(c), due[c]);
        }
    }

    private static ConkerYard four() {
        return Due.with("yard 1;conker 5 4 0;conker 9 4 0;conker 9 5 0;conker 1 1 0");
    }

    private static void cupsWrong() {
        Edge.says("-3: not 2, 4 or 8 are WHOLE, for others, or without a YARD.");
        for (int wrong : new int[] {-2, -3, 8, 9, WORST, Integer.MAX_VALUE}) {
            Edge.stays(AsItIsEdgesTest::four, "cups(" + wrong + ")", -3, x -> x.cups(wrong));
        }
        Edge.stays(AsItIsEdgesTest::four, "cups(NONE)", 3, x -> x.cups(NONE));
        Edge.stays(AsItIsEdgesTest::four, "cups(2)", 1, x -> x.cups(2));
        Edge.stays(AsItIsEdgesTest::four, "cups(4)", -2, x -> x.cups(4));
        for (int what = NONE; what < 8; what++) {
            int asked = what;
            Edge.stays(Edge::busy, "three are whole: cups(" + what + ")", -3, x -> x.cups(asked));
            Edge.stays(ConkerYard::new, "without a yard: cups(" + what + ")", -3, x -> x.cups(asked));
        }
    }

    private static void row(String text, int... due) {
        ConkerYard x = Due.with(text);
        Edge.due(text + ": ladder(NONE)", x.ladder(NONE), due.length);
        for (int place = 0; place < 8; place++) {
            Edge.due(text + ": ladder(" + place + ")", Due.with(text).ladder(place), place < due.length ? due[place] : NONE);
        }
    }

    private static void ladders() {
        Edge.says("each of which BEATS the next one, none twice; of several the first (least numbers first)");
        row(ALL, 0, 1, 2, 3, 4, 5, 6, 7);
        row(QUIET, 0);
        row("yard 1;conker 1 1 0;conker 9 9 0", 1, 0);
        row("yard 1;conker 5 3 0;conker 9 5 0;conker 3 1 0", 1, 0, 2);
        row("yard 1;conker 9 2 0;conker 9 1 0;conker 9 1 0;conker 2 1 0", 0, 3);
        row(CHAIN, 0, 1, 2, 3);
        row(THROUGH, 3, 0, 1);
        // 0 and 1 smash 2 and 3: 0 is the first, 2 the first behind it
        row("yard 1;conker 9 5 0;conker 9 5 0;conker 5 1 0;conker 5 1 0", 0, 2);
        ConkerYard x = Due.with("yard 1;conker 1 1 0;conker 9 1 0;conker 9 1 0");
        x.bout(1, 0);
        Edge.due("of those that are whole", x.ladder(NONE), 1);
        Edge.due("the least that is", x.ladder(0), 1);
        Edge.says("how long (0: none is WHOLE), 0 to 7: which is in that place (NONE: it is not so long).");
        row("yard 1");
        row("yard 1;conker 9 1 0", 0);
    }

    private static void ladderWrong() {
        Edge.says("-3 for others, or without a YARD.");
        for (int wrong : new int[] {-2, -3, 8, 9, WORST, Integer.MAX_VALUE}) {
            Edge.stays(Edge::busy, "ladder(" + wrong + ")", -3, x -> x.ladder(wrong));
        }
        // 0 smashes 2 and 3, 3 smashes 2, whose cracks are many
        Edge.stays(Edge::busy, "ladder(NONE)", 3, x -> x.ladder(NONE));
        Edge.stays(Edge::busy, "ladder(1)", 3, x -> x.ladder(1));
        Edge.stays(Edge::busy, "ladder(3)", NONE, x -> x.ladder(3));
        for (int what = NONE; what < 8; what++) {
            int asked = what;
            Edge.stays(ConkerYard::new, "without a yard: ladder(" + what + ")", -3, x -> x.ladder(asked));
        }
    }

    private static void rings() {
        Edge.says("RINGS, as bits; NONE without a YARD.");
        Edge.stays(ConkerYard::new, "rings()", NONE, ConkerYard::rings);
        Edge.stays(Edge::busy, "rings()", 0, ConkerYard::rings);
        Edge.due("no conkers", Due.with("yard 1").rings(), 0);
        Edge.says("of which a row of such leads, each BEATS the next one, back to itself");
        Edge.due("one alone", Due.with("yard 1;conker 1 1 0").rings(), 0);
        Edge.due("none", Due.with(QUIET).rings(), 0);
        Edge.due("all", Due.with(ALL).rings(), 255);
        Edge.due("one way alone", Due.with(THROUGH).rings(), 0);
        Edge.due("1 and 2; 0 leads to them, 3 is led to", Due.with("yard 1;conker 9 9 0;conker 5 5 0;conker 5 5 0;conker 9 1 0")
            .rings(), 6);
        Edge.due("the last two", Due.with("yard 1" + ";conker 9 1 0".repeat(6) + ";conker 5 5 0;conker 5 5 0").rings(), 192);
        Edge.due("1 and 2 of the chain", Due.with(CHAIN).rings(), 6);
        ConkerYard x = Due.with(ALL);
        for (int c = 0; c < 7; c++) {
            Edge.due("of " + (8 - c), x.rings(), 255 << c & 255);
            x.bout(7, c);
        }
        Edge.due("of one", x.rings(), 0);
    }

    private static void kings() {
        Edge.says("KINGS, as bits; NONE without a YARD.");
        Edge.stays(ConkerYard::new, "kings()", NONE, ConkerYard::kings);
        Edge.stays(Edge::busy, "kings()", 1, ConkerYard::kings);
        Edge.due("no conkers", Due.with("yard 1").kings(), 0);
        Edge.says("BEAT each other one, or one that BEATS it, as bits.");
        Edge.due("one alone", Due.with("yard 1;conker 1 1 0").kings(), 1);
        Edge.due("none", Due.with(QUIET).kings(), 0);
        Edge.due("all", Due.with(ALL).kings(), 255);
        Edge.due("by one between", Due.with(THROUGH).kings(), 8);
        Edge.due("by two between: none", Due.with(CHAIN).kings(), 0);
        Edge.due("the last", Due.with("yard 1" + ";conker 10 1 0".repeat(7) + ";conker 30 20 0").kings(), 128);
        // 0 smashes 2 alone, 1 smashes both
        Edge.due("1 alone", Due.with("yard 1;conker 5 3 0;conker 9 5 0;conker 3 1 0").kings(), 2);
        ConkerYard x = Due.with(THROUGH);
        x.bout(3, 0);
        Edge.due("with 0 smashed", x.kings(), 0);
        x.undo();
        Edge.due("undone", x.kings(), 8);
    }
}
