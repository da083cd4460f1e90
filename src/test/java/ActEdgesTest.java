/** Edges of bouts, rounds and acts by hand: part II of the document's terms, and promises 7 to 13. */
public final class ActEdgesTest {
    private static final int NONE = ConkerYard.NONE;
    private static final int WORST = Integer.MIN_VALUE;
    private static final String QUIET = "yard 1;conker 9 1 0;conker 9 1 0";

    public static void main(String[] args) {
        conker();
        strikes();
        smashing();
        score();
        greatest();
        ties();
        withoutRule();
        healing();
        roundNumbers();
        bout();
        pickle();
        mend();
        string();
        undoNone();
        undoOne();
        undoTwenty();
        Edge.close("ActEdgesTest");
    }

    private static void conker() {
        Edge.says("NONE without these.");
        int[][] wrong = {{-1, 0}, {4, 0}, {7, 0}, {8, 0}, {0, -1}, {0, 5}, {1, 5}, {WORST, 0}, {0, WORST},
            {Integer.MAX_VALUE, 0}, {0, Integer.MAX_VALUE}};
        for (int[] row : wrong) {
            Edge.stays(Edge::busy, "conker(" + row[0] + ", " + row[1] + ")", NONE, x -> x.conker(row[0], row[1]));
        }
        for (int what = 0; what <= 4; what++) {
            Edge.due("without a yard", new ConkerYard().conker(0, what), NONE);
            Edge.due("without conkers", Due.with("yard 1").conker(0, what), NONE);
        }
        Edge.says("4: 1 if it is WHOLE, else 0");
        // 1 was smashed by the first strike of 0; 2 and 3 had a bout, behind the round
        int[][] busy = {{10, 4, 0, 3, 1}, {6, 5, 6, 0, 0}, {8, 3, 6, 1, 1}, {16, 2, 9, 5, 1}};
        for (int c = 0; c < 4; c++) {
            for (int what = 0; what <= 4; what++) {
                int of = c;
                int asked = what;
                Edge.stays(Edge::busy, "conker(" + c + ", " + what + ")", busy[c][what], x -> x.conker(of, asked));
            }
        }
    }

    private static void strikes() {
        Edge.says("STRIKES times each at most");
        for (int strikes = 1; strikes <= 9; strikes += 4) {
            ConkerYard x = Due.with("yard " + strikes + ";conker 30 1 0;conker 30 2 0");
            Edge.due("bout(0, 1)", x.bout(0, 1), -2);
            Edge.due("cracks of 0", x.conker(0, 2), 2 * strikes);
            Edge.due("cracks of 1", x.conker(1, 2), strikes);
        }
        Edge.says("and the BOUT is at its end");
        ConkerYard first = Due.with("yard 9;conker 9 3 0;conker 7 1 0");
        Edge.due("smashed by the third strike of the first one", first.bout(0, 1), 1);
        Edge.due("the other one had two", first.conker(0, 2), 2);
        ConkerYard second = Due.with("yard 9;conker 3 1 0;conker 9 2 0");
        Edge.due("smashed by the second strike of the other one", second.bout(0, 1), 0);
        Edge.due("the first one had two", second.conker(1, 2), 2);
        ConkerYard last = Due.with("yard 2;conker 4 1 0;conker 9 2 0");
        Edge.due("smashed by the last strike of all", last.bout(0, 1), 0);
        Edge.due("the first one had two", last.conker(1, 2), 2);
    }

    private static void smashing() {
        Edge.says("are these HARD or more, it is SMASHED");
        Edge.due("as many", Due.with("yard 1;conker 9 4 0;conker 5 4 0;cracked 1 1").bout(0, 1), 1);
        Edge.due("more", Due.with("yard 1;conker 9 5 0;conker 5 4 0;cracked 1 1").bout(0, 1), 1);
        ConkerYard one = Due.with("yard 1;conker 9 4 0;conker 5 4 0");
        Edge.due("one less", one.bout(0, 1), -2);
        Edge.due("it has them", one.conker(1, 2), 4);
        Edge.due("it is whole", one.conker(1, 4), 1);
        Edge.due("the next strike of any", one.bout(0, 1), 1);
        Edge.says("(WHOLE no more, CRACKS as HARD)");
        ConkerYard x = Due.with("yard 1;conker 5 20 0;conker 7 1 0");
        x.bout(0, 1);
        Edge.due("not 20", x.conker(1, 2), 7);
        Edge.due("whole", x.conker(1, 4), 0);
        Edge.due("hard stays", x.conker(1, 0), 7);
        Edge.due("count(5)", x.count(5), 1);
        ConkerYard back = Due.with("yard 1;conker 5 1 0;conker 7 20 0");
        back.round();
        Edge.due("in a round, who struck first", back.conker(0, 2), 5);
        Edge.due("count(5)", back.count(5), 2);
    }

    private static void score() {
        Edge.says("the other one has as much more SCORE as that one had, and 1 (999 at most), that one has 0");
        ConkerYard x = Due.with("yard 1;conker 5 20 20;conker 7 1 20");
        x.bout(0, 1);
        Edge.due("score", x.conker(0, 3), 41);
        Edge.due("score of the smashed one", x.conker(1, 3), 0);
        ConkerYard struck = Due.with("yard 1;conker 5 1 3;conker 9 5 4");
        Edge.due("who struck first is smashed", struck.bout(0, 1), 0);
        Edge.due("score", struck.conker(1, 3), 8);
        Edge.due("score of the smashed one", struck.conker(0, 3), 0);
        ConkerYard none = Due.with("yard 1;conker 5 20 0;conker 7 1 0");
        none.bout(0, 1);
        Edge.due("of none 1", none.conker(0, 3), 1);
        // as much as any can have: all scores that can be told, and 1 for each of seven
        ConkerYard all = Due.with("yard 1" + ";conker 1 1 20".repeat(8));
        for (int c = 1; c < 8; c++) {
            Edge.due("bout(0, " + c + ")", all.bout(0, c), c);
            Edge.due("score", all.conker(0, 3), 20 + 21 * c);
        }
        Edge.due("nothing is smashed when none does", Due.with(QUIET).bout(0, 1), -2);
        ConkerYard quiet = Due.with("yard 1;conker 9 1 4;conker 9 1 6");
        quiet.bout(0, 1);
        Edge.due("scores stay", quiet.conker(0, 3), 4);
        Edge.due("scores stay", quiet.conker(1, 3), 6);
    }

    private static int striker(String text, String rule) {
        return Due.under(text, rule).round();
    }

    private static void greatest() {
        Edge.says("is greatest, if it is above 0");
        Edge.due("0", striker(QUIET, "hit 0"), -2);
        Edge.due("1", striker(QUIET, "hit 1"), 0);
        Edge.due("below 0", striker(QUIET, "hit 0-1"), -2);
        Edge.due("one of them", striker(QUIET, "hit striker"), 1);
        Edge.due("the greater one, the other below 0", striker(QUIET, "hit 2*striker-1"), 1);
        Edge.says("first CLAUSE without a TEST, or whose TEST holds (0 without)");
        Edge.due("without", striker(QUIET, "hit 1 if 1=2;hit 2 if 2=3"), -2);
        Edge.due("the first one that holds is 0", striker(QUIET, "hit 0 if 1=1;hit 5"), -2);
        Edge.due("the first one without a test is 0", striker(QUIET, "hit 0;hit 5"), -2);
        Edge.due("the second one holds", striker(QUIET, "hit 9 if 1=2;hit 1 if striker=1;hit 0"), 1);
        Edge.due("the last one has no test", striker(QUIET, "hit 0 if striker=0;hit 0 if 1=2;hit 1"), 1);
    }

    /** Whether just these two are in the bout of a round among four alike. */
    private static void two(String rule, int striker, int struck) {
        ConkerYard x = Due.under("yard 1" + ";conker 9 1 0".repeat(4), rule);
        Edge.due("striker by '" + rule + "'", x.round(), striker);
        for (int c = 0; c < 4; c++) {
            Edge.due("cracks of " + c + " by '" + rule + "'", x.conker(c, 2), c == striker || c == struck ? 1 : 0);
        }
    }

    private static void ties() {
        Edge.says("of several the least striker, then the least struck one (none, if none is such)");
        two("hit 1", 0, 1);
        two("hit struck", 0, 3);
        two("hit striker", 3, 0);
        two("hit 1 if striker>0", 1, 0);
        two("hit 1 if striker=1 and struck>0", 1, 2);
        two("hit 1 if striker+struck>=5", 2, 3);
        two("hit 3-struck if struck>0", 0, 1);
        two("hit 0", -2, -2);
    }

    private static void withoutRule() {
        Edge.says("without a RULE the least WHOLE one strikes first at the next one that is.");
        ConkerYard x = Due.with("yard 1;conker 1 1 0;conker 9 9 0;conker 1 1 0;conker 9 1 0");
        x.bout(1, 0);
        x.bout(1, 2);
        Edge.due("not 0, which is smashed", x.round(), 1);
        Edge.due("at 3, for 2 is smashed", x.count(5), 2);
        Edge.due("one is whole: nobody", x.round(), -2);
        Edge.due("the round goes on", x.count(4), 2);
        ConkerYard last = Due.with("yard 1" + ";conker 1 1 0".repeat(8));
        for (int c = 0; c < 6; c++) {
            last.bout(7, c);
        }
        Edge.due("the last two", last.round(), 6);
        Edge.due("the last two", last.count(5), 64);
        Edge.due("no conkers: nobody", Due.with("yard 1").round(), -2);
        Edge.due("one conker: nobody", Due.with("yard 1;conker 1 1 0").round(), -2);
    }

    private static void healing() {
        Edge.says("All CONKERS that are WHOLE and had no BOUT in it have 1 of their CRACKS less (0 at least).");
        ConkerYard x = Due.with("yard 1;conker 9 1 0;conker 9 1 0;conker 9 1 0;conker 4 1 0;cracked 2 2;cracked 3 3");
        Edge.due("3 is smashed", x.bout(2, 3), 3);
        int[] healed = {1, 0, 0};
        for (int round = 0; round < 3; round++) {
            Edge.due("round()", x.round(), 0);
            Edge.due("it had the bout", x.conker(0, 2), round + 1);
            Edge.due("it had the bout", x.conker(1, 2), round + 1);
            Edge.due("it had none", x.conker(2, 2), healed[round]);
            Edge.due("it is smashed", x.conker(3, 2), 4);
        }
        ConkerYard nobody = Due.under("yard 1;conker 9 1 0;conker 9 1 0;cracked 0 2;cracked 1 1", "hit 0");
        nobody.round();
        Edge.due("all heal when nobody strikes", nobody.conker(0, 2), 1);
        Edge.due("all heal when nobody strikes", nobody.conker(1, 2), 0);
        nobody.round();
        nobody.round();
        Edge.due("0 at least", nobody.count(7), 0);
        ConkerYard other = Due.under("yard 1" + ";conker 9 1 0".repeat(8) + ";cracked 0 5;cracked 7 5", "hit 1 if striker=6");
        Edge.due("6 at 0", other.round(), 6);
        Edge.due("0 had the bout", other.conker(0, 2), 6);
        Edge.due("7 had none", other.conker(7, 2), 4);
        ConkerYard smashed = Due.with("yard 1;conker 9 9 0;conker 9 1 0;cracked 0 3");
        smashed.round();
        Edge.due("who smashed had the bout, too", smashed.conker(0, 2), 3);
        smashed.round();
        Edge.due("then it heals", smashed.conker(0, 2), 2);
    }

    private static void roundNumbers() {
        Edge.says("NONE, and nothing happens, without a YARD, or in ROUND 999.");
        Edge.stays(ConkerYard::new, "round()", NONE, ConkerYard::round);
        ConkerYard none = new ConkerYard();
        none.image(0);
        Due.yard(none, QUIET);
        none.back(0);
        Edge.due("back to no yard", none.round(), NONE);
        // as many as calls can be: 999 is beyond
        Edge.says("ROUND is 1 more (999 at most by hand; ROUNDS that are asked go on beyond).");
        ConkerYard x = Due.with("yard 1");
        for (int round = 0; round < 500; round++) {
            x.round();
        }
        Edge.due("count(4)", x.count(4), 500);
        Edge.due("alone()", x.alone(), 500);
        Edge.due("undo()", x.undo(), 19);
        Edge.due("count(4)", x.count(4), 499);
        ConkerYard asked = Due.under(QUIET, "hit 1 if round = 499 and striker = 1");
        for (int round = 0; round < 300; round++) {
            asked.round();
        }
        asked.string(1, 20);
        Edge.due("the 200th from 300 on", asked.smashed(0), 499);
        Edge.due("the 200th from 300 on", asked.alone(), 499);
        asked.undo();
        asked.undo();
        asked.string(1, 20);
        Edge.due("the 201st from 299 on", asked.smashed(0), -2);
        Edge.due("the 201st from 299 on", asked.alone(), -2);
    }

    private static void bout() {
        Edge.says("NONE, and nothing happens, without these (unlike, WHOLE).");
        int[][] wrong = {{0, 0}, {1, 1}, {0, 1}, {1, 0}, {0, 4}, {4, 0}, {0, -1}, {-1, 0}, {8, 0}, {0, 8}, {WORST, 0},
            {0, WORST}, {Integer.MAX_VALUE, 0}, {0, Integer.MAX_VALUE}};
        for (int[] row : wrong) {
            Edge.stays(Edge::busy, "bout(" + row[0] + ", " + row[1] + ")", NONE, x -> x.bout(row[0], row[1]));
        }
        Edge.stays(ConkerYard::new, "bout(0, 1)", NONE, x -> x.bout(0, 1));
        Edge.says("BOUT (of two; ROUND stays, nothing heals)");
        ConkerYard x = Due.with("yard 1;conker 9 1 0;conker 9 1 0;conker 9 1 0;cracked 2 5");
        Edge.due("bout(1, 0)", x.bout(1, 0), -2);
        Edge.due("round", x.count(4), 0);
        Edge.due("cracks of 2", x.conker(2, 2), 5);
        Edge.due("it is an act", x.count(9), 1);
    }

    private static void pickle() {
        Edge.says("PICKLE (one that is WHOLE is 1 to 9 more HARD, 60 at most)");
        ConkerYard x = Due.with("yard 1;conker 30 1 0;conker 1 1 0");
        int[] hard = {39, 48, 57};
        for (int due : hard) {
            Edge.due("pickle(0, 9)", x.pickle(0, 9), due);
        }
        Edge.due("pickle(0, 2)", x.pickle(0, 2), 59);
        Edge.due("pickle(0, 1)", x.pickle(0, 1), 60);
        Edge.due("pickle(0, 1) of 60", x.pickle(0, 1), 60);
        x.undo();
        x.undo();
        Edge.due("pickle(0, 9) of 59", x.pickle(0, 9), 60);
        Edge.due("hard", x.conker(0, 0), 60);
        x.undo();
        Edge.due("hard, undone", x.conker(0, 0), 59);
        Edge.due("pickle(1, 1)", x.pickle(1, 1), 2);
        Edge.says("PICKLE: HARD then; NONE, and nothing happens, without these.");
        int[][] wrong = {{0, 0}, {0, 10}, {0, -1}, {0, WORST}, {0, Integer.MAX_VALUE}, {1, 1}, {4, 1}, {-1, 1}, {8, 1},
            {WORST, 1}, {Integer.MAX_VALUE, 1}};
        for (int[] row : wrong) {
            Edge.stays(Edge::busy, "pickle(" + row[0] + ", " + row[1] + ")", NONE, y -> y.pickle(row[0], row[1]));
        }
        Edge.stays(ConkerYard::new, "pickle(0, 1)", NONE, y -> y.pickle(0, 1));
    }

    private static void mend() {
        Edge.says("MEND (one with CRACKS that is WHOLE has none)");
        ConkerYard x = Edge.busy();
        Edge.due("mend(2)", x.mend(2), 6);
        Edge.due("cracks", x.conker(2, 2), 0);
        Edge.due("mend(2) again", x.mend(2), NONE);
        Edge.due("of 1", Due.with("yard 1;conker 2 1 0;cracked 0 1").mend(0), 1);
        Edge.due("of 29", Due.with("yard 1;conker 30 1 0;cracked 0 29").mend(0), 29);
        Edge.says("how many CRACKS it had; NONE, and nothing happens, without these.");
        for (int wrong : new int[] {0, 1, 4, 8, -1, WORST, Integer.MAX_VALUE}) {
            Edge.stays(Edge::busy, "mend(" + wrong + ")", NONE, y -> y.mend(wrong));
        }
        Edge.stays(ConkerYard::new, "mend(0)", NONE, y -> y.mend(0));
    }

    private static void string() {
        Edge.says("STRING (one that is WHOLE has another SWING, 1 to 20)");
        ConkerYard x = Edge.busy();
        Edge.due("string(0, 1)", x.string(0, 1), 4);
        Edge.due("string(0, 20)", x.string(0, 20), 1);
        Edge.due("swing", x.conker(0, 1), 20);
        Edge.says("what SWING it was; NONE, and nothing happens, without these (another one).");
        int[][] wrong = {{0, 4}, {0, 0}, {0, 21}, {0, -1}, {0, WORST}, {0, Integer.MAX_VALUE}, {1, 1}, {4, 1}, {-1, 1},
            {8, 1}, {WORST, 1}, {Integer.MAX_VALUE, 1}};
        for (int[] row : wrong) {
            Edge.stays(Edge::busy, "string(" + row[0] + ", " + row[1] + ")", NONE, y -> y.string(row[0], row[1]));
        }
        Edge.stays(ConkerYard::new, "string(0, 1)", NONE, y -> y.string(0, 1));
    }

    private static ConkerYard behindYard() {
        ConkerYard x = Edge.busy();
        x.yard();
        return x;
    }

    private static ConkerYard behindImage() {
        ConkerYard x = Edge.busy();
        x.back(1);
        return x;
    }

    private static void undoNone() {
        Edge.says("how many more can be; NONE, and nothing happens: none can.");
        Edge.stays(ConkerYard::new, "undo()", NONE, ConkerYard::undo);
        Edge.stays(ActEdgesTest::behindYard, "undo() behind yard()", NONE, ConkerYard::undo);
        Edge.stays(ActEdgesTest::behindImage, "undo() behind back()", NONE, ConkerYard::undo);
        ConkerYard x = Edge.busy();
        Edge.due("the bout", x.undo(), 2);
        Edge.due("the round", x.undo(), 1);
        Edge.due("the pickling", x.undo(), 0);
        Edge.due("no more", x.undo(), NONE);
        Edge.due("as the text told it", x.conker(3, 0), 12);
        Edge.due("whole", x.count(5), 15);
        Edge.due("round", x.count(4), 0);
    }

    private static void undoOne() {
        Edge.says("The last ACT is UNDONE");
        Edge.stays(Edge::busy, "round(), undo()", 3, x -> x.round() == 0 ? x.undo() : -9);
        Edge.stays(Edge::busy, "bout(3, 2), undo()", 3, x -> x.bout(3, 2) == 2 ? x.undo() : -9);
        Edge.stays(Edge::busy, "pickle(0, 9), undo()", 3, x -> x.pickle(0, 9) == 19 ? x.undo() : -9);
        Edge.stays(Edge::busy, "mend(3), undo()", 3, x -> x.mend(3) == 9 ? x.undo() : -9);
        Edge.stays(Edge::busy, "string(3, 20), undo()", 3, x -> x.string(3, 20) == 2 ? x.undo() : -9);
        Edge.says("ACTS: a ROUND; BOUT");
        ConkerYard x = Edge.busy();
        x.force(0);
        x.seed(7);
        x.note(5, 0, 1);
        x.image(2);
        x.end(0);
        Edge.due("others are none", x.count(9), 3);
        x.undo();
        Edge.due("the rule in force stays", x.count(3), 0);
        Edge.due("x stays", x.count(10), 7);
        Edge.due("notes stay", x.count(8), 3);
        Edge.due("the tape stays", x.count(11), 0);
        ConkerYard nobody = Due.with("yard 1");
        nobody.round();
        Edge.due("a round in which nobody strikes is one", nobody.undo(), 0);
    }

    /** A conker whose swing is changed so often; its swing behind the n-th change is n, from the 20th on n - 19. */
    private static ConkerYard strung(int times) {
        ConkerYard x = Due.with("yard 1;conker 9 20 0");
        for (int i = 0; i < times; i++) {
            x.string(0, i % 19 + 1);
        }
        return x;
    }

    private static void undoTwenty() {
        Edge.says("The last 20 can be UNDONE, the last first.");
        int[][] rows = {{19, 19, 20}, {20, 20, 20}, {21, 20, 1}, {25, 20, 5}, {39, 20, 19}, {40, 20, 1}, {62, 20, 4}};
        for (int[] row : rows) {
            ConkerYard x = strung(row[0]);
            Edge.due("acts of " + row[0], x.count(9), row[1]);
            for (int left = row[1] - 1; left >= 0; left--) {
                Edge.due("undo() of " + row[0], x.undo(), left);
            }
            Edge.due("swing behind them", x.conker(0, 1), row[2]);
            Edge.due("no more", x.undo(), NONE);
        }
        ConkerYard mixed = strung(15);
        for (int i = 0; i < 10; i++) {
            mixed.undo();
        }
        Edge.due("swing behind five", mixed.conker(0, 1), 5);
        for (int hard = 10; hard <= 27; hard++) {
            Edge.due("pickle(0, 1)", mixed.pickle(0, 1), hard);
        }
        Edge.due("20 of 23", mixed.count(9), 20);
        for (int i = 0; i < 20; i++) {
            mixed.undo();
        }
        Edge.due("swing behind three", mixed.conker(0, 1), 3);
        Edge.due("hard behind three", mixed.conker(0, 0), 9);
        Edge.due("no more", mixed.undo(), NONE);
    }
}
