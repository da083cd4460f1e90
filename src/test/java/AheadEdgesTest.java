/** Edges of how it goes on: promises 22 to 29. */
public final class AheadEdgesTest {
    private static final int NONE = ConkerYard.NONE;
    private static final int WORST = Integer.MIN_VALUE;
    private static final int ALL_SWINGS = (1 << 21) - 2;
    private static final String QUIET = "yard 1;conker 9 1 0;conker 9 1 0";
    /** 0 can smash 1 by one strike. */
    private static final String STRONG = "yard 1;conker 9 9 4;conker 9 1 6";

    public static void main(String[] args) {
        ahead();
        aheadWrong();
        waiting();
        smashed();
        alone();
        best();
        bestHard();
        bestOfSeveral();
        bestWrong();
        hards();
        hardsWrong();
        swings();
        rests();
        restsWrong();
        pence();
        penceWrong();
        Edge.close("AheadEdgesTest");
    }

    private static void ahead() {
        Edge.says("AHEAD n ROUNDS (0 to 100): CONKERS that are WHOLE, as bits; SCORE; CRACKS of one.");
        ConkerYard x = Due.under(STRONG, "hit 1 if round = 99");
        int[][] due = {{0, 3, 4, 0}, {1, 3, 4, 0}, {99, 3, 4, 0}, {100, 1, 11, 9}};
        for (int[] row : due) {
            Edge.due("whole behind " + row[0], x.ahead(0, row[0], 0), row[1]);
            Edge.due("score behind " + row[0], x.ahead(0, row[0], 1), row[2]);
            Edge.due("cracks behind " + row[0], x.ahead(1, row[0], 2), row[3]);
        }
        Edge.due("score of the smashed one", x.ahead(1, 100, 1), 0);
        ConkerYard healing = Due.with("yard 1;conker 30 1 0;cracked 0 29");
        int[] rounds = {0, 1, 28, 29, 30, 100};
        int[] cracks = {29, 28, 1, 0, 0, 0};
        for (int i = 0; i < rounds.length; i++) {
            Edge.due("cracks behind " + rounds[i], healing.ahead(0, rounds[i], 2), cracks[i]);
        }
        ConkerYard nobody = Due.under("yard 1;conker 9 1 0;conker 9 1 0;cracked 0 3", "hit 1 if round = 5");
        Edge.due("quiet rounds are counted, too", nobody.ahead(1, 5, 2), 0);
        Edge.due("quiet rounds are counted, too", nobody.ahead(1, 6, 2), 1);
        Edge.due("all of eight", Due.with("yard 1" + ";conker 9 1 0".repeat(8)).ahead(0, 0, 0), 255);
        Edge.due("no conkers", Due.with("yard 1").ahead(0, 100, 0), 0);
        Edge.says("(conker is not asked for the first one)");
        for (int any : new int[] {0, 7, 8, -1, WORST, Integer.MAX_VALUE}) {
            Edge.stays(Edge::busy, "ahead(" + any + ", 0, 0)", 13, y -> y.ahead(any, 0, 0));
        }
    }

    private static void aheadWrong() {
        Edge.says("NONE without these, or a YARD.");
        int[][] wrong = {{0, -1, 0}, {0, 101, 0}, {0, WORST, 0}, {0, Integer.MAX_VALUE, 0}, {0, 0, -1}, {0, 0, 3}, {0, 0, WORST},
            {0, 0, Integer.MAX_VALUE}, {4, 0, 1}, {4, 0, 2}, {-1, 0, 1}, {-1, 0, 2}, {8, 0, 1}, {WORST, 0, 2},
            {Integer.MAX_VALUE, 0, 1}, {0, 101, 1}, {0, -1, 2}};
        for (int[] row : wrong) {
            Edge.stays(Edge::busy, "ahead(" + row[0] + ", " + row[1] + ", " + row[2] + ")", NONE,
                x -> x.ahead(row[0], row[1], row[2]));
        }
        for (int what = 0; what <= 2; what++) {
            int asked = what;
            Edge.stays(ConkerYard::new, "without a yard", NONE, x -> x.ahead(0, 0, asked));
        }
        Edge.stays(Edge::busy, "of one that is smashed: score", 0, x -> x.ahead(1, 3, 1));
        Edge.stays(Edge::busy, "of one that is smashed: cracks", 6, x -> x.ahead(1, 3, 2));
    }

    /** Nobody strikes till the last crack is healed. */
    private static void waiting() {
        Edge.says("All CONKERS that are WHOLE and had no BOUT in it have 1 of their CRACKS less (0 at least).");
        for (int cracks = 0; cracks <= 3; cracks++) {
            ConkerYard x = Due.under("yard 1;conker 9 9 0;conker 9 1 0;cracked 1 " + cracks, "hit 1 if cracks+gaps=0");
            String after = " behind " + cracks + " quiet rounds";
            Edge.due("smashed(1)" + after, x.smashed(1), cracks);
            Edge.due("alone()" + after, x.alone(), cracks);
            Edge.due("both" + after, x.ahead(0, cracks, 0), 3);
            Edge.due("one in the round" + after, x.ahead(0, cracks + 1, 0), 1);
            Edge.due("who had best be pickled" + after, x.best(cracks + 1, 0), 1);
            x.note(cracks, 1, 0);
            Edge.due("so by the rule, and by none, which has 0 strike at once", x.ruled(0), 2);
            if (cracks > 0) {
                x.note(cracks - 1, 1, 1);
                Edge.due("so by the rule alone", x.ruled(1), 0);
            }
        }
    }

    private static void smashed() {
        Edge.says("the first ROUND, this one the first, of 200, in which it is.");
        Edge.due("this one", Due.with(STRONG).smashed(1), 0);
        Edge.due("the 200th", Due.under(STRONG, "hit 1 if round = 199").smashed(1), 199);
        ConkerYard x = Due.under(STRONG, "hit 1 if round = 200");
        Edge.due("the 201st", x.smashed(1), -2);
        x.round();
        Edge.due("the 200th from round 1 on", x.smashed(1), 200);
        ConkerYard struck = Due.under("yard 1;conker 9 1 0;conker 9 9 0", "hit 1 if round = 7");
        Edge.due("who strikes first is, too", struck.smashed(0), 7);
        Edge.due("who smashes is not", struck.smashed(1), -2);
        Edge.says("SMASHED; -2: in none of these; NONE without one that is WHOLE.");
        Edge.due("none is", Due.under(STRONG, "hit 0").smashed(1), -2);
        for (int wrong : new int[] {1, 4, 7, 8, -1, WORST, Integer.MAX_VALUE}) {
            Edge.stays(Edge::busy, "smashed(" + wrong + ")", NONE, y -> y.smashed(wrong));
        }
        // it is round 1: 0 strikes at 2 in it
        Edge.stays(Edge::busy, "smashed(2)", 1, y -> y.smashed(2));
        Edge.stays(Edge::busy, "smashed(0)", -2, y -> y.smashed(0));
        Edge.stays(ConkerYard::new, "without a yard", NONE, y -> y.smashed(0));
    }

    private static void alone() {
        Edge.says("the first ROUND, this one the first, of 200, behind which one is WHOLE or none.");
        Edge.due("this one", Due.with(STRONG).alone(), 0);
        Edge.due("one is already", Due.with("yard 1;conker 9 1 0").alone(), 0);
        Edge.due("none is", Due.with("yard 1").alone(), 0);
        Edge.due("the 200th", Due.under(STRONG, "hit 1 if round = 199").alone(), 199);
        ConkerYard x = Due.under(STRONG, "hit 1 if round = 200");
        Edge.due("the 201st", x.alone(), -2);
        x.round();
        Edge.due("the 200th from round 1 on", x.alone(), 200);
        x.bout(0, 1);
        Edge.due("by hand, in round 1", x.alone(), 1);
        Edge.due("two of three are smashed", Due.with("yard 1;conker 9 9 0;conker 9 1 0;conker 9 1 0").alone(), 1);
        Edge.says("ALONE; -2: behind none of these; NONE without a YARD.");
        Edge.due("two are", Due.under(STRONG, "hit 0").alone(), -2);
        Edge.due("two of three are", Due.under("yard 1;conker 9 9 0;conker 9 1 0;conker 9 1 0", "hit 1 if struck=1").alone(), -2);
        Edge.stays(ConkerYard::new, "without a yard", NONE, ConkerYard::alone);
        Edge.stays(Edge::busy, "alone()", 2, ConkerYard::alone);
    }

    private static void best() {
        Edge.says("BEST for n ROUNDS (1 to 40)");
        ConkerYard x = Due.under("yard 1;conker 9 20 0;conker 9 1 0", "hit 1 if round = 39");
        Edge.due("best(39, 1)", x.best(39, 1), 2);
        Edge.due("best(40, 1)", x.best(40, 1), 1);
        ConkerYard first = Due.under("yard 1;conker 9 20 0;conker 9 1 0", "hit 1");
        Edge.due("best(1, 1)", first.best(1, 1), 1);
        Edge.due("best(1, 0)", first.best(1, 0), NONE);
        Edge.says("what 0: which (NONE: none), 1: how many.");
        Edge.due("no conkers", Due.with("yard 1").best(40, 0), NONE);
        Edge.due("no conkers", Due.with("yard 1").best(40, 1), 0);
        ConkerYard last = Due.under("yard 1;conker 30 9 0" + ";conker 20 1 0".repeat(6) + ";conker 9 1 0", "hit 1 if struck = 7");
        Edge.due("the eighth", last.best(1, 0), 7);
        Edge.due("all eight", last.best(1, 1), 8);
    }

    private static void bestHard() {
        Edge.says("had best be 5 more HARD now (60 at most)");
        String rule = "hit 1 if striker = 1";
        ConkerYard nine = Due.under("yard 1;conker 5 1 0;conker 30 9 0", rule);
        Edge.due("9 cracks are less than 10", nine.best(1, 0), 0);
        Edge.due("9 cracks are less than 10", nine.best(1, 1), 2);
        ConkerYard ten = Due.under("yard 1;conker 5 1 0;conker 30 10 0", rule);
        Edge.due("10 are not", ten.best(1, 0), NONE);
        Edge.due("10 are not", ten.best(1, 1), 1);
        ConkerYard sixty = Due.under("yard 3;conker 30 1 0;conker 30 20 0", rule);
        harden(sixty);
        Edge.due("60 cracks are not less than 60", sixty.best(1, 0), NONE);
        Edge.due("60 cracks are not less than 60", sixty.best(1, 1), 1);
        ConkerYard less = Due.under("yard 2;conker 30 1 0;conker 30 20 0;cracked 0 19", rule);
        harden(less);
        Edge.due("59 are", less.best(1, 0), 0);
        Edge.due("59 are", less.best(1, 1), 2);
        Edge.due("nothing changes", less.conker(0, 0), 58);
    }

    /** 58 HARD, so that 5 more would be beyond 60. */
    private static void harden(ConkerYard x) {
        x.pickle(0, 9);
        x.pickle(0, 9);
        x.pickle(0, 9);
        Edge.due("pickle(0, 1)", x.pickle(0, 1), 58);
    }

    private static void bestOfSeveral() {
        Edge.says("of several none, then the least: which; how many.");
        ConkerYard x = Due.under("yard 1;conker 5 1 0;conker 5 1 0;conker 30 9 0",
            "hit 1 if striker=2 and struck=0 and round=0;hit 1 if striker=2 and struck=1 and round=1");
        Edge.due("behind one round", x.best(1, 0), 0);
        Edge.due("0 is as good as 1", x.best(2, 0), 0);
        Edge.due("how many", x.best(2, 1), 2);
        x.mend(2);
        x.round();
        Edge.due("0 is smashed now", x.best(1, 0), 1);
        Edge.due("how many", x.best(1, 1), 2);
        Edge.due("none is as good as any", Due.under(QUIET, "hit 0").best(40, 0), NONE);
        Edge.due("how many", Due.under(QUIET, "hit 0").best(40, 1), 2);
    }

    private static void bestWrong() {
        Edge.says("-2 without these, or a YARD.");
        int[][] wrong = {{0, 0}, {41, 0}, {-1, 0}, {WORST, 0}, {Integer.MAX_VALUE, 0}, {1, -1}, {1, 2}, {1, WORST},
            {1, Integer.MAX_VALUE}, {0, 1}, {41, 1}};
        for (int[] row : wrong) {
            Edge.stays(Edge::busy, "best(" + row[0] + ", " + row[1] + ")", -2, x -> x.best(row[0], row[1]));
        }
        Edge.stays(ConkerYard::new, "without a yard", -2, x -> x.best(1, 0));
        Edge.stays(ConkerYard::new, "without a yard", -2, x -> x.best(1, 1));
        Edge.stays(Edge::busy, "best(40, 1)", 1, x -> x.best(40, 1));
    }

    private static void hardsOf(ConkerYard x, int conker, int many, int least) {
        Edge.due("hards(" + conker + ", 0)", x.hards(conker, 0), many);
        Edge.due("hards(" + conker + ", 1)", x.hards(conker, 1), least);
    }

    private static void hards() {
        Edge.says("numbers 1 to 30, above the CRACKS told, as HARD, in place of what the text told");
        hardsOf(Due.with("yard 1;conker 9 1 0"), 0, 30, 1);
        hardsOf(Due.with("yard 1;conker 9 1 0;cracked 0 1"), 0, 29, 2);
        hardsOf(Due.with("yard 1;conker 30 1 0;cracked 0 29"), 0, 1, 30);
        hardsOf(Due.with("yard 1;conker 9 1 0;cracked 0 8;cracked 0 0"), 0, 30, 1);
        // 9 cracks told and 20 more by one strike
        ConkerYard x = Due.under("yard 1;conker 10 1 0;conker 30 20 0;cracked 0 9", "hit 1 if striker = 1");
        x.note(0, 0, 1);
        hardsOf(x, 0, 1, 30);
        x.note(NONE, 0, 0);
        x.note(0, 0, 0);
        hardsOf(x, 0, 20, 10);
        Edge.says("HARDS what 0: how many, 1: the least (-2: there is none).");
        x.note(0, 0, 1);
        hardsOf(x, 0, 0, -2);
        hardsOf(x, 1, 0, -2);
        Edge.says("all else as the text told it");
        ConkerYard told = Due.under("yard 1;conker 10 1 0;conker 30 20 0;cracked 0 9", "hit 1 if striker = 1");
        told.note(0, 0, 1);
        told.mend(0);
        told.string(1, 1);
        told.round();
        hardsOf(told, 0, 1, 30);
        told.bout(1, 0);
        told.bout(1, 0);
        hardsOf(told, 0, 1, 30);
        told.force(NONE);
        // 0 strikes first then, and it has 29 cracks all the same
        hardsOf(told, 0, 1, 30);
        // 1 is smashed by the strike of 0 if it is 1 HARD, and 0 is never struck
        hardsOf(told, 1, 1, 1);
    }

    private static void hardsWrong() {
        Edge.says("NONE without these.");
        int[][] wrong = {{0, -1}, {0, 2}, {0, WORST}, {0, Integer.MAX_VALUE}, {4, 0}, {4, 1}, {-1, 0}, {8, 0}, {WORST, 0},
            {Integer.MAX_VALUE, 1}};
        for (int[] row : wrong) {
            Edge.stays(Edge::busy, "hards(" + row[0] + ", " + row[1] + ")", NONE, x -> x.hards(row[0], row[1]));
        }
        Edge.stays(ConkerYard::new, "without a yard", NONE, x -> x.hards(0, 0));
        Edge.stays(ConkerYard::new, "without a yard", NONE, x -> x.hards(0, 1));
        Edge.says("SWINGS, as bits (1 to 20); NONE without that CONKER.");
        for (int conker : new int[] {4, 7, 8, -1, WORST, Integer.MAX_VALUE}) {
            Edge.stays(Edge::busy, "swings(" + conker + ")", NONE, x -> x.swings(conker));
        }
        Edge.stays(ConkerYard::new, "without a yard", NONE, x -> x.swings(0));
    }

    private static int swingsOf(String text, int whole) {
        ConkerYard x = Due.under(text, "hit 1 if striker = 1");
        x.note(0, 0, whole);
        return x.swings(1);
    }

    private static void swings() {
        Edge.says("SWINGS of one: numbers 1 to 20 likewise as SWING, as bits.");
        Edge.due("all", Due.with("yard 1;conker 9 1 0").swings(0), ALL_SWINGS);
        Edge.due("all", Due.with("yard 1" + ";conker 9 1 0".repeat(8)).swings(7), ALL_SWINGS);
        Edge.due("20 alone", swingsOf("yard 1;conker 20 1 0;conker 30 1 0", 0), 1 << 20);
        Edge.due("all but 20", swingsOf("yard 1;conker 20 1 0;conker 30 1 0", 1), ALL_SWINGS - (1 << 20));
        Edge.due("1 alone", swingsOf("yard 1;conker 2 1 0;conker 30 1 0", 1), 2);
        Edge.due("all but 1", swingsOf("yard 1;conker 2 1 0;conker 30 1 0", 0), ALL_SWINGS - 2);
        Edge.due("none", swingsOf("yard 1;conker 1 1 0;conker 30 1 0", 1), 0);
        Edge.due("none", swingsOf("yard 1;conker 21 1 0;conker 30 1 0", 0), 0);
        Edge.due("with the cracks told", swingsOf("yard 1;conker 21 1 0;conker 30 1 0;cracked 0 1", 0), 1 << 20);
        ConkerYard x = Due.under("yard 1;conker 20 1 0;conker 30 1 0", "hit 1 if striker = 1");
        x.note(0, 0, 0);
        x.string(1, 20);
        x.round();
        Edge.due("of one as the text told it, though it is smashed", x.swings(0), 0);
        Edge.due("the other one", x.swings(1), 1 << 20);
    }

    private static void rests() {
        Edge.says("RESTS of two that are WHOLE for n ROUNDS (1 to 20): each has SWING 4, 8, 12 or 16 from now on");
        // 0 can smash 1 of 9 by 12 or 16, in round 19 alone
        ConkerYard x = Due.under("yard 1;conker 30 1 0;conker 9 1 3", "hit 1 if round = 19 and striker = 0");
        Edge.due("rests(0, 1, 19, 0)", x.rests(0, 1, 19, 0), 16);
        Edge.due("rests(0, 1, 20, 0)", x.rests(0, 1, 20, 0), 8);
        Edge.due("rests(0, 1, 20, 1)", x.rests(0, 1, 20, 1), 12);
        Edge.due("rests(0, 1, 20, 2)", x.rests(0, 1, 20, 2), 4);
        ConkerYard now = Due.under("yard 1;conker 30 1 0;conker 9 1 3", "hit 1 if round = 0 and striker = 0");
        Edge.due("rests(0, 1, 1, 0)", now.rests(0, 1, 1, 0), 8);
        ConkerYard sixteen = Due.under("yard 1;conker 30 1 0;conker 16 1 3", "hit 1 if striker = 0");
        Edge.due("16 alone", sixteen.rests(0, 1, 1, 0), 4);
        Edge.due("16", sixteen.rests(0, 1, 1, 1), 16);
        ConkerYard four = Due.under("yard 1;conker 30 1 0;conker 4 1 3", "hit 1 if striker = 0");
        Edge.due("4 does", four.rests(0, 1, 1, 0), 16);
        ConkerYard eight = Due.under("yard 1;conker 30 1 0;conker 8 1 3", "hit 1 if striker = 0");
        Edge.due("8 does", eight.rests(0, 1, 1, 0), 12);
        Edge.due("8", eight.rests(0, 1, 1, 1), 8);
        Edge.says("twos of which neither would have more by another one: how many; the first (by the first one, then the second one)");
        Edge.due("by the second one", eight.rests(1, 0, 1, 1), 4);
        Edge.due("by the second one", eight.rests(1, 0, 1, 2), 8);
        Edge.due("all", Due.under(QUIET, "hit 0").rests(0, 1, 1, 0), 16);
        Edge.due("the first", Due.under(QUIET, "hit 0").rests(0, 1, 1, 1), 4);
        Edge.due("the first", Due.under(QUIET, "hit 0").rests(0, 1, 1, 2), 4);
        Edge.says("RESTS what 0: how many, 1, 2: SWINGS of the first (-2: there is none).");
        // who swings most is struck; see PromisesTest
        ConkerYard none = Due.under("yard 1;conker 2 8 4;conker 5 7 4;conker 2 7 3", "hit blow");
        Edge.due("none", none.rests(0, 1, 1, 0), 0);
        Edge.due("none", none.rests(0, 1, 1, 1), -2);
        Edge.due("none", none.rests(0, 1, 1, 2), -2);
        Edge.due("nothing changes", none.conker(0, 1), 8);
    }

    private static void restsWrong() {
        Edge.says("NONE without these (unlike, WHOLE).");
        int[][] wrong = {{0, 2, 0, 0}, {0, 2, 21, 0}, {0, 2, -1, 0}, {0, 2, WORST, 0}, {0, 2, Integer.MAX_VALUE, 0},
            {0, 2, 1, -1}, {0, 2, 1, 3}, {0, 2, 1, WORST}, {0, 2, 1, Integer.MAX_VALUE}, {0, 0, 1, 0}, {0, 1, 1, 0},
            {1, 0, 1, 0}, {0, 4, 1, 0}, {4, 0, 1, 0}, {-1, 0, 1, 0}, {0, -1, 1, 0}, {8, 0, 1, 1}, {0, 8, 1, 2},
            {WORST, 0, 1, 0}, {0, WORST, 1, 0}, {Integer.MAX_VALUE, 0, 1, 0}, {0, Integer.MAX_VALUE, 1, 0}};
        for (int[] row : wrong) {
            Edge.stays(Edge::busy, "rests(" + row[0] + ", " + row[1] + ", " + row[2] + ", " + row[3] + ")", NONE,
                x -> x.rests(row[0], row[1], row[2], row[3]));
        }
        Edge.stays(ConkerYard::new, "without a yard", NONE, x -> x.rests(0, 1, 1, 0));
        // 0 smashes 2 by any swing
        Edge.stays(Edge::busy, "rests(0, 2, 1, 0)", 16, x -> x.rests(0, 2, 1, 0));
    }

    private static void parts(String text, int much, int... due) {
        for (int c = 0; c < due.length; c++) {
            Edge.due("pence(" + much + ", " + c + ") of " + text, Due.with(text).pence(much, c), due[c]);
        }
    }

    private static void pence() {
        Edge.says("each the part downwards; what is left, one each, to those whose part lost most by that");
        String three = "yard 1;conker 9 1 5;conker 9 1 3;conker 9 1 2";
        parts(three, 0, 0, 0, 0);
        parts(three, 1, 1, 0, 0);
        parts(three, 10, 5, 3, 2);
        // 3.5, 2.1 and 1.4
        parts(three, 7, 4, 2, 1);
        // 4999.5, 2999.7 and 1999.8
        parts(three, 9999, 4999, 3000, 2000);
        Edge.says("of several the least first (nothing, if none has any)");
        String alike = "yard 1;conker 9 1 1;conker 9 1 1;conker 9 1 1";
        parts(alike, 10, 4, 3, 3);
        parts(alike, 11, 4, 4, 3);
        parts(alike, 12, 4, 4, 4);
        parts("yard 1" + ";conker 9 1 1".repeat(8), 7, 1, 1, 1, 1, 1, 1, 1, 0);
        parts("yard 1;conker 9 1 0;conker 9 1 7", 9, 0, 9);
        parts(QUIET, 9999, 0, 0);
        parts("yard 1;conker 9 1 20", 9999, 9999);
        parts("yard 1;conker 9 1 0;conker 9 1 1", 9999, 0, 9999);
        Edge.says("PENCE of a CONKER (0, if it is not WHOLE); NONE without these.");
        ConkerYard x = Due.with("yard 1;conker 1 1 3;conker 9 1 1;conker 9 1 4");
        Edge.due("all whole", x.pence(8, 0), 3);
        x.bout(1, 0);
        Edge.due("it is smashed", x.pence(9, 0), 0);
        Edge.due("its score goes to the other", x.pence(9, 1), 5);
        Edge.due("the third one", x.pence(9, 2), 4);
    }

    private static void penceWrong() {
        Edge.says("PENCE (0 to 9999)");
        int[][] wrong = {{-1, 0}, {10000, 0}, {WORST, 0}, {Integer.MAX_VALUE, 0}, {1, 4}, {1, -1}, {1, 8}, {1, WORST},
            {1, Integer.MAX_VALUE}, {-1, 1}, {10000, 1}};
        for (int[] row : wrong) {
            Edge.stays(Edge::busy, "pence(" + row[0] + ", " + row[1] + ")", NONE, x -> x.pence(row[0], row[1]));
        }
        // of 3, 1 and 5
        Edge.stays(Edge::busy, "pence(9999, 0)", 3333, x -> x.pence(9999, 0));
        Edge.stays(Edge::busy, "pence(9999, 1)", 0, x -> x.pence(9999, 1));
        Edge.stays(Edge::busy, "pence(9999, 3)", 5555, x -> x.pence(9999, 3));
        Edge.stays(ConkerYard::new, "without a yard", NONE, x -> x.pence(1, 0));
    }
}
