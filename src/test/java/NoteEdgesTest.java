/** Edges of notes, draws, frost, counts and images: promises 30 to 37. */
public final class NoteEdgesTest {
    private static final int NONE = ConkerYard.NONE;
    private static final int WORST = Integer.MIN_VALUE;
    private static final String QUIET = "yard 1;conker 9 1 0;conker 9 1 0";
    /** 0 can smash 1 by one strike. */
    private static final String STRONG = "yard 1;conker 9 9 0;conker 9 1 0";

    public static void main(String[] args) {
        note();
        noteWrong();
        noteRounds();
        ruled();
        ruledWrong();
        look();
        lookRounds();
        lookWrong();
        seed();
        draws();
        frostCracks();
        frostOnes();
        frostTimes();
        frostWrong();
        counts();
        image();
        back();
        backWhole();
        Edge.close("NoteEdgesTest");
    }

    private static ConkerYard tenNotes() {
        ConkerYard x = Edge.busy();
        for (int i = 0; i < 8; i++) {
            x.note(60, 0, 1);
        }
        return x;
    }

    private static void note() {
        Edge.says("NOTES 0 to 9, told: behind the n-th ROUND of all (0 to 60) a CONKER was WHOLE (1), or not (0).");
        ConkerYard x = Due.with("yard 1" + ";conker 9 1 0".repeat(8));
        int[][] right = {{0, 0, 0}, {0, 0, 1}, {60, 7, 1}, {60, 7, 0}, {1, 3, 1}};
        for (int i = 0; i < right.length; i++) {
            Edge.due("note " + i, x.note(right[i][0], right[i][1], right[i][2]), i + 1);
            Edge.due("count(8)", x.count(8), i + 1);
        }
        Edge.due("the same twice", x.note(1, 3, 1), 6);
        for (int i = 7; i <= 10; i++) {
            Edge.due("note", x.note(0, 0, 1), i);
        }
        Edge.says("-2, and nothing happens, without these, or if there are 10.");
        Edge.due("the eleventh", x.note(0, 0, 1), -2);
        Edge.due("count(8)", x.count(8), 10);
        Edge.stays(NoteEdgesTest::tenNotes, "the eleventh", -2, y -> y.note(0, 0, 0));
        Edge.says("(n NONE: there are none then, 0)");
        Edge.due("note(NONE, ..)", x.note(NONE, WORST, 77), 0);
        Edge.due("count(8)", x.count(8), 0);
        Edge.due("note(NONE, ..) again", x.note(NONE, 0, 0), 0);
        Edge.due("one anew", x.note(0, 0, 0), 1);
        Edge.due("by it alone", x.ruled(0), 0);
        Edge.stays(ConkerYard::new, "without a yard", 0, y -> y.note(NONE, 0, 0));
    }

    private static void noteWrong() {
        Edge.says("-2, and nothing happens, without these, or if there are 10.");
        int[][] wrong = {{-2, 0, 1}, {61, 0, 1}, {WORST, 0, 1}, {Integer.MAX_VALUE, 0, 1}, {0, -1, 1}, {0, 4, 1}, {0, 8, 1},
            {0, WORST, 1}, {0, Integer.MAX_VALUE, 1}, {0, 0, -1}, {0, 0, 2}, {0, 0, WORST}, {0, 0, Integer.MAX_VALUE}};
        for (int[] row : wrong) {
            Edge.stays(Edge::busy, "note(" + row[0] + ", " + row[1] + ", " + row[2] + ")", -2,
                x -> x.note(row[0], row[1], row[2]));
        }
        Edge.stays(ConkerYard::new, "without a yard", -2, x -> x.note(0, 0, 1));
        Edge.due("without conkers", Due.with("yard 1").note(0, 0, 1), -2);
        ConkerYard smashed = Edge.busy();
        Edge.due("of one that is smashed", smashed.note(0, 1, 1), 3);
    }

    private static void noteRounds() {
        Edge.says("behind the n-th ROUND of all (0 to 60)");
        for (int round : new int[] {0, 1, 59, 60}) {
            ConkerYard x = Due.under(STRONG, "hit 1 if round = " + round);
            x.note(round, 1, 0);
            Edge.due("smashed in round " + round, x.hards(1, 0), 9);
            Edge.due("smashed in round " + round, x.ruled(0), 2);
            if (round > 0) {
                x.note(round - 1, 1, 1);
                Edge.due("and not before", x.ruled(0), 1);
                Edge.due("and not before", x.ruled(1), 0);
                Edge.due("and not before", x.swings(0), (1 << 21) - (1 << 9));
            }
        }
        ConkerYard late = Due.under(STRONG, "hit 1 if round = 61");
        late.note(60, 1, 0);
        Edge.due("not yet", late.hards(1, 0), 0);
        Edge.due("not yet", late.ruled(1), NONE);
        ConkerYard hand = Due.with(STRONG);
        hand.round();
        hand.round();
        hand.note(0, 1, 0);
        Edge.due("of all, not from now on", hand.ruled(0), 1);
    }

    private static ConkerYard sixRules(String text, String five, String last) {
        return Due.with(text, five, five, five, five, five, last);
    }

    private static void ruled() {
        Edge.says("RULED: which of the RULES, and of none");
        ConkerYard all = sixRules(QUIET, "hit 1", "hit 0");
        Edge.due("none and all six", all.ruled(0), 7);
        Edge.due("none is the first", all.ruled(1), NONE);
        Edge.due("without rules", Due.with(QUIET).ruled(0), 1);
        Edge.due("without rules", Due.with(QUIET).ruled(1), NONE);
        Edge.due("without conkers", sixRules("yard 1", "hit 1", "hit 0").ruled(0), 7);
        Edge.says("the first (none ahead of 0, told as NONE)");
        ConkerYard last = sixRules(STRONG, "hit 1", "hit 0");
        last.note(0, 1, 1);
        Edge.due("the sixth alone", last.ruled(0), 1);
        Edge.due("the sixth alone", last.ruled(1), 5);
        last.note(NONE, 0, 0);
        last.note(0, 1, 0);
        Edge.due("all but the sixth", last.ruled(0), 6);
        Edge.due("none is the first", last.ruled(1), NONE);
        ConkerYard five = sixRules(STRONG, "hit 0", "hit 1");
        five.note(0, 1, 1);
        Edge.due("0 is the first", five.ruled(0), 5);
        Edge.due("0 is the first", five.ruled(1), 0);
        Edge.says("what 0: how many, 1: the first (NONE: none; -2: there is none such).");
        five.note(0, 1, 0);
        Edge.due("no rule, nor none", five.ruled(0), 0);
        Edge.due("no rule, nor none", five.ruled(1), -2);
        Edge.says("so that from the begin on, all as the text told it, all NOTES are so");
        ConkerYard told = Due.with(STRONG, "hit 0");
        told.note(0, 1, 0);
        told.pickle(1, 9);
        told.string(0, 1);
        told.round();
        told.force(0);
        Edge.due("not as it is", told.ruled(0), 1);
        Edge.due("not by the rule in force", told.ruled(1), NONE);
    }

    private static void ruledWrong() {
        Edge.says("-3 for others, or without a YARD.");
        for (int wrong : new int[] {-1, 2, 3, WORST, Integer.MAX_VALUE}) {
            Edge.stays(Edge::busy, "ruled(" + wrong + ")", -3, x -> x.ruled(wrong));
        }
        Edge.stays(ConkerYard::new, "without a yard", -3, x -> x.ruled(0));
        Edge.stays(ConkerYard::new, "without a yard", -3, x -> x.ruled(1));
        // 1 is smashed in round 0 by none and by both rules; 2 is in round 1 by none and 1, and by 0 3 is
        Edge.stays(Edge::busy, "ruled(0)", 1, x -> x.ruled(0));
        Edge.stays(Edge::busy, "ruled(1)", 0, x -> x.ruled(1));
    }

    private static void look() {
        Edge.says("these part best: the most alike are fewest, of several the least; how many.");
        ConkerYard alike = Due.with(QUIET, "hit 0");
        Edge.due("all alike: the least", alike.look(0, 0), 0);
        Edge.due("all alike: how many", alike.look(0, 1), 2);
        Edge.due("asked again", alike.look(0, 0), 0);
        ConkerYard parted = Due.with(STRONG, "hit 0");
        Edge.due("1 parts them", parted.look(0, 0), 1);
        Edge.due("one each", parted.look(0, 1), 1);
        ConkerYard first = Due.with("yard 1;conker 9 1 0;conker 9 9 0", "hit 0");
        Edge.due("0 parts them", first.look(0, 0), 0);
        Edge.due("one each", first.look(0, 1), 1);
        // 0 smashes 1 by none, 2 by the first rule, 3 by the second and third, nobody by the last
        ConkerYard five = Due.with("yard 1;conker 9 9 0;conker 9 1 0;conker 9 1 0;conker 9 1 0",
            "hit 1 if striker=0 and struck=2", "hit 1 if striker=0 and struck=3", "hit 2 if striker=0 and struck=3", "hit 0");
        Edge.due("3 is smashed by two of five", five.look(0, 0), 3);
        Edge.due("three are alike", five.look(0, 1), 3);
        five.note(0, 3, 1);
        Edge.due("1 is smashed by one of three, and so is 2", five.look(0, 0), 1);
        Edge.due("two are alike", five.look(0, 1), 2);
        ConkerYard whole = sixRules(STRONG, "hit 1", "hit 0");
        Edge.due("six of seven are alike, though not whole", whole.look(0, 0), 1);
        Edge.due("six of seven are alike, though not whole", whole.look(0, 1), 6);
        ConkerYard none = Due.with(STRONG);
        Edge.due("none alone", none.look(60, 0), 0);
        Edge.due("none alone", none.look(60, 1), 1);
    }

    private static void lookRounds() {
        Edge.says("LOOK behind the n-th ROUND");
        for (int round : new int[] {0, 1, 59, 60}) {
            ConkerYard x = Due.with(STRONG, "hit 0", "hit 1 if round = " + round);
            x.note(0, 1, round == 0 ? 0 : 1);
            Edge.due("behind round " + round, x.look(round, 1), round == 0 ? 2 : 1);
            Edge.due("behind round " + round, x.look(round, 0), round == 0 ? 0 : 1);
            if (round > 0) {
                Edge.due("ahead of it all are alike", x.look(round - 1, 1), 2);
                Edge.due("ahead of it all are alike", x.look(round - 1, 0), 0);
            }
        }
        ConkerYard hand = Due.with(STRONG, "hit 0");
        hand.string(0, 1);
        hand.round();
        Edge.due("from the begin on, as the text told it", hand.look(0, 0), 1);
    }

    private static void lookWrong() {
        Edge.says("-2: no RULE is so, or there are no CONKERS.");
        ConkerYard none = Due.with(STRONG, "hit 0");
        none.note(0, 0, 0);
        Edge.due("no rule is so", none.look(0, 0), -2);
        Edge.due("no rule is so", none.look(60, 1), -2);
        Edge.due("no conkers", Due.with("yard 1", "hit 1").look(0, 0), -2);
        Edge.due("no conkers", Due.with("yard 1", "hit 1").look(60, 1), -2);
        Edge.says("NONE without these, or a YARD.");
        int[][] wrong = {{-1, 0}, {61, 0}, {WORST, 0}, {Integer.MAX_VALUE, 0}, {0, -1}, {0, 2}, {0, WORST},
            {0, Integer.MAX_VALUE}, {-1, 1}, {61, 1}};
        for (int[] row : wrong) {
            Edge.stays(Edge::busy, "look(" + row[0] + ", " + row[1] + ")", NONE, x -> x.look(row[0], row[1]));
        }
        Edge.due("no conkers, and a wrong n", Due.with("yard 1").look(61, 0), NONE);
        Edge.due("no rule is so, and a wrong what", none.look(0, 2), NONE);
        Edge.stays(ConkerYard::new, "without a yard", NONE, x -> x.look(0, 0));
        Edge.stays(ConkerYard::new, "without a yard", NONE, x -> x.look(0, 1));
        // rule 0 alone is so
        Edge.stays(Edge::busy, "look(60, 1)", 1, x -> x.look(60, 1));
    }

    private static void seed() {
        Edge.says("x becomes a number: what it was; NONE, and nothing happens, below 0.");
        Edge.stays(Edge::busy, "seed(-1)", NONE, x -> x.seed(-1));
        Edge.stays(Edge::busy, "seed of the least", NONE, x -> x.seed(WORST));
        Edge.stays(ConkerYard::new, "seed(-1)", NONE, x -> x.seed(-1));
        Edge.stays(Edge::busy, "the same again", 99, x -> x.seed(99));
        ConkerYard x = new ConkerYard();
        int[] numbers = {0, 1, Integer.MAX_VALUE, Integer.MAX_VALUE - 1, 0};
        int before = 0;
        for (int number : numbers) {
            Edge.due("seed(" + number + ")", x.seed(number), before);
            Edge.due("count(10)", x.count(10), number);
            before = number;
        }
    }

    /** The first DRAW mod 100 from a number on, found by frost upon a single conker. */
    private static int firstDraw(int seed) {
        ConkerYard x = Due.under("yard 1;conker 9 1 0", "hit 0");
        x.seed(seed);
        int percent = 0;
        while (percent < 100 && x.frost(1, 1, percent + 1, 1) == 0) {
            percent++;
        }
        return percent;
    }

    private static void draws() {
        Edge.says("x (0 to 2147483647; 0 at first) becomes x * 1103515245 + 12345, of 2147483648 the rest; a DRAW is x / 65536.");
        // the DRAWS are 0, 21468, 16838, 908 and 15929
        Edge.due("from 0", firstDraw(0), 0);
        Edge.due("from 12345, which follows 0", firstDraw(12345), 68);
        Edge.due("from 1", firstDraw(1), 38);
        Edge.due("from 2", firstDraw(2), 8);
        Edge.due("from the greatest", firstDraw(Integer.MAX_VALUE), 29);
    }

    private static void frostCracks() {
        Edge.says("it has 3 more CRACKS, as many as HARD less 1 at most");
        // each heals by 1 behind the frost
        int[] cracks = {0, 0, 1, 2, 2, 2};
        for (int hard = 1; hard <= 6; hard++) {
            ConkerYard x = Due.with("yard 1;conker " + hard + " 1 0");
            Edge.due("cracks of hard " + hard, x.frost(1, 1, 100, 1), cracks[hard - 1]);
            Edge.due("whole", x.frost(1, 60, 100, 0), 1);
        }
        ConkerYard x = Due.with("yard 1;conker 30 1 0");
        int[] rounds = {1, 2, 13, 14, 15, 60};
        int[] more = {2, 4, 26, 28, 28, 28};
        for (int i = 0; i < rounds.length; i++) {
            Edge.due("cracks behind " + rounds[i], x.frost(1, rounds[i], 100, 1), more[i]);
        }
        Edge.due("full already", Due.with("yard 1;conker 9 1 0;cracked 0 8").frost(1, 1, 100, 1), 7);
        Edge.says("ahead of each a DRAW mod 100: is it below p (0 to 100)");
        Edge.due("0 is not below 0", x.frost(1, 1, 0, 1), 0);
        Edge.due("0 is below 1", x.frost(1, 1, 1, 1), 2);
        // the DRAWS are 0 and 21468 in the first round, then 9988; is it frost, 22117 says where
        Edge.due("88 is below 89", x.frost(1, 2, 89, 1), 4);
        Edge.due("88 is not below 88; one DRAW is taken then", x.frost(1, 2, 88, 1), 1);
        Edge.due("17 is the next one", x.frost(1, 3, 88, 1), 3);
    }

    private static void frostOnes() {
        Edge.says("and are there CONKERS, a DRAW mod how many: is that one WHOLE");
        Edge.due("there are none", Due.with("yard 1").frost(10, 60, 100, 0), 0);
        Edge.due("there are none", Due.with("yard 1").frost(10, 60, 100, 1), 0);
        // 21468 mod 2 is 0, and so is mod 3; mod 8 it is 4
        ConkerYard first = Due.under("yard 1;conker 1 1 0;conker 9 1 0", "hit 0");
        first.bout(1, 0);
        Edge.due("of all that were told, whole or not: the smashed one", first.frost(1, 1, 100, 1), 0);
        Edge.due("one is whole", first.frost(1, 1, 100, 0), 1);
        ConkerYard other = Due.under("yard 1;conker 9 1 0;conker 1 1 0", "hit 0");
        other.bout(0, 1);
        Edge.due("the whole one", other.frost(1, 1, 100, 1), 2);
        ConkerYard eight = Due.under("yard 1" + ";conker 1 1 0".repeat(4) + ";conker 9 1 0" + ";conker 1 1 0".repeat(3), "hit 0");
        Edge.due("the fifth of eight", eight.frost(1, 1, 100, 1), 2);
        // a quiet round first: from 12345 on 68, 88, 17 and 3498 mod 2, that is 0
        ConkerYard quiet = Due.under(QUIET, "hit 0");
        quiet.seed(12345);
        Edge.due("no frost yet", quiet.frost(1, 2, 60, 1), 0);
        Edge.due("frost in the third round, behind two in which nothing was", quiet.frost(1, 3, 60, 1), 2);
        // behind it 27 and 16045 mod 2, that is 1: 3 and 2 heal
        Edge.due("and in the fourth", quiet.frost(1, 4, 60, 1), 3);
        // frost lets 0 smash 1 in the round
        ConkerYard brittle = Due.with("yard 1;conker 9 6 0;conker 9 1 0");
        brittle.seed(3);
        // 47 and 7107 mod 2, that is 1
        Edge.due("3 cracks and 6", brittle.frost(1, 1, 100, 0), 1);
        Edge.due("without it two are whole", brittle.frost(1, 1, 47, 0), 2);
    }

    private static void frostTimes() {
        Edge.says("FROST m times (1 to 10) n ROUNDS (1 to 60) from now on");
        ConkerYard one = Due.with("yard 1;conker 30 1 0");
        Edge.due("ten times sixty", one.frost(10, 60, 100, 1), 280);
        Edge.due("ten times one", one.frost(10, 1, 100, 1), 20);
        Edge.due("ten times one whole", one.frost(10, 60, 100, 0), 10);
        // DRAWS from 0 on for one conker by 50: 0 (frost), 88, 17 (frost)
        Edge.due("DRAWS go on from time to time", one.frost(1, 1, 50, 1), 2);
        Edge.due("DRAWS go on from time to time", one.frost(2, 1, 50, 1), 2);
        Edge.due("DRAWS go on from time to time", one.frost(3, 1, 50, 1), 4);
        ConkerYard late = Due.under("yard 1;conker 9 9 0;conker 9 1 0", "hit 1 if round = 59");
        Edge.due("59 rounds", late.frost(1, 59, 0, 0), 2);
        Edge.due("60 rounds", late.frost(1, 60, 0, 0), 1);
        Edge.due("ten times 60 rounds", late.frost(10, 60, 0, 0), 10);
        Edge.due("ten times 59 rounds", late.frost(10, 59, 0, 0), 20);
        Edge.says("(nothing stays; x as it was)");
        Edge.stays(Edge::busy, "frost(10, 60, 0, 0)", 10, x -> x.frost(10, 60, 0, 0));
        Edge.stays(Edge::busy, "frost(10, 60, 100, 0)", 10, x -> x.frost(10, 60, 100, 0));
        Edge.due("and again", one.frost(3, 1, 50, 1), 4);
    }

    private static void frostWrong() {
        Edge.says("NONE without these, or a YARD.");
        int[][] wrong = {{0, 1, 1, 0}, {11, 1, 1, 0}, {-1, 1, 1, 0}, {WORST, 1, 1, 0}, {Integer.MAX_VALUE, 1, 1, 0},
            {1, 0, 1, 0}, {1, 61, 1, 0}, {1, -1, 1, 0}, {1, WORST, 1, 0}, {1, Integer.MAX_VALUE, 1, 0}, {1, 1, -1, 0},
            {1, 1, 101, 0}, {1, 1, WORST, 0}, {1, 1, Integer.MAX_VALUE, 0}, {1, 1, 1, -1}, {1, 1, 1, 2}, {1, 1, 1, WORST},
            {1, 1, 1, Integer.MAX_VALUE}};
        for (int[] row : wrong) {
            Edge.stays(Edge::busy, "frost(" + row[0] + ", " + row[1] + ", " + row[2] + ", " + row[3] + ")", NONE,
                x -> x.frost(row[0], row[1], row[2], row[3]));
        }
        Edge.stays(ConkerYard::new, "without a yard", NONE, x -> x.frost(1, 1, 1, 0));
        Edge.stays(ConkerYard::new, "without a yard", NONE, x -> x.frost(1, 1, 1, 1));
    }

    private static void counts() {
        Edge.says("11: bytes of the TAPE. NONE for others.");
        for (int wrong : new int[] {-1, 12, 13, WORST, Integer.MAX_VALUE}) {
            Edge.stays(Edge::busy, "count(" + wrong + ")", NONE, x -> x.count(wrong));
            Edge.stays(ConkerYard::new, "count(" + wrong + ")", NONE, x -> x.count(wrong));
        }
        Edge.says("5: who is WHOLE, as bits, 6: SCORE of all that are WHOLE, 7: CRACKS of all that are");
        int[] busy = {3, 4, 2, 1, 1, 13, 9, 15, 2, 3, 99, 19};
        for (int what = 0; what < busy.length; what++) {
            int asked = what;
            Edge.stays(Edge::busy, "count(" + what + ")", busy[what], x -> x.count(asked));
        }
        ConkerYard eight = Due.with("yard 9" + ";conker 30 20 20".repeat(8) + ";cracked 7 29;cracked 0 29");
        int[] full = {9, 8, 0, NONE, 0, 255, 160, 58, 0, 0, 0, 0};
        for (int what = 0; what < full.length; what++) {
            Edge.due("count(" + what + ")", eight.count(what), full[what]);
        }
        ConkerYard last = Due.with("yard 1" + ";conker 1 1 20".repeat(8));
        for (int c = 0; c < 7; c++) {
            last.bout(7, c);
        }
        Edge.due("the last one", last.count(5), 128);
        Edge.due("its score", last.count(6), 167);
        Edge.due("cracks of the smashed ones do not count", last.count(7), 0);
    }

    private static void image() {
        Edge.says("An IMAGE is made: ROUND; NONE without it.");
        for (int wrong : new int[] {-1, 4, 5, WORST, Integer.MAX_VALUE}) {
            Edge.stays(Edge::busy, "image(" + wrong + ")", NONE, x -> x.image(wrong));
        }
        ConkerYard x = Due.with("yard 1;conker 9 1 0");
        for (int k = 0; k < 4; k++) {
            Edge.due("image(" + k + ")", x.image(k), k);
            x.round();
        }
        for (int k = 3; k >= 0; k--) {
            Edge.due("back(" + k + ")", x.back(k), k);
            Edge.due("count(4)", x.count(4), k);
        }
        x.round();
        x.round();
        Edge.due("in place of the one there was", x.image(3), 2);
        x.back(0);
        Edge.due("in place of the one there was", x.back(3), 2);
        Edge.due("the others stay", x.back(2), 2);
        Edge.due("the others stay", x.back(1), 1);
        ConkerYard acts = Edge.busy();
        acts.image(0);
        Edge.due("acts can be undone behind it", acts.undo(), 2);
        Edge.due("it is as it was all the same", acts.back(0), 1);
        Edge.due("cracks", acts.conker(2, 2), 6);
    }

    private static void back() {
        Edge.says("NONE, and nothing happens, if it was never made, or without it.");
        for (int wrong : new int[] {0, 2, -1, 4, 5, WORST, Integer.MAX_VALUE}) {
            Edge.stays(Edge::busy, "back(" + wrong + ")", NONE, x -> x.back(wrong));
        }
        for (int k = 0; k < 4; k++) {
            int asked = k;
            Edge.stays(ConkerYard::new, "back(" + k + ")", NONE, x -> x.back(asked));
        }
        Edge.says("gone back to, it is as it was (these stay; nothing can be UNDONE then).");
        ConkerYard x = Edge.busy();
        x.image(0);
        x.round();
        Edge.due("acts", x.count(9), 4);
        Edge.due("back(0)", x.back(0), 1);
        Edge.due("acts", x.count(9), 0);
        Edge.due("undo()", x.undo(), NONE);
        Edge.due("count(4)", x.count(4), 1);
        x.pickle(0, 1);
        Edge.due("what is done then can be", x.undo(), 0);
        Edge.due("and no more", x.undo(), NONE);
        ConkerYard none = new ConkerYard();
        Edge.due("an image of no yard", none.image(0), 0);
        Due.yard(none, QUIET);
        none.round();
        Edge.due("back to it", none.back(0), 0);
        Edge.due("no yard", none.round(), NONE);
        Edge.due("no yard", none.alone(), NONE);
        Edge.due("no conkers", none.count(1), 0);
    }

    private static void backWhole() {
        Edge.says("IMAGES 0 to 3: all but the TAPE and the RULES, as it is (the RULE IN FORCE, too)");
        ConkerYard x = Edge.busy();
        x.image(0);
        Due.yard(x, "yard 9;conker 2 2 2;conker 2 2 2");
        x.force(NONE);
        x.seed(5);
        x.note(7, 1, 0);
        x.round();
        Edge.due("a third rule", Due.rule(x, "hit 7"), 2);
        Due.feed(x, "abc");
        Edge.due("back(0)", x.back(0), 1);
        int[] counts = {3, 4, 3, 1, 1, 13, 9, 15, 2, 0, 99, 3};
        for (int what = 0; what < counts.length; what++) {
            Edge.due("count(" + what + ")", x.count(what), counts[what]);
        }
        Edge.due("the bytes of the tape stay", x.yard(), Due.fault(0, 0));
        Edge.due("the notes are those that were", x.ruled(1), 0);
        x.note(NONE, 0, 0);
        Edge.due("the text is the one that was: above 2 cracks", x.hards(1, 1), 3);
        Edge.due("the rules stay", x.force(2), 1);
        // of the notes each part is another one now
        ConkerYard notes = Edge.busy();
        notes.note(NONE, 0, 0);
        notes.note(60, 3, 1);
        notes.note(60, 0, 0);
        Edge.due("by no rule", notes.ruled(0), 0);
        notes.back(3);
        Edge.due("the notes are those that were", notes.ruled(0), 1);
        Edge.due("the notes are those that were", notes.ruled(1), 0);
    }
}
