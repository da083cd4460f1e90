/** Promises 1 and 7 to 37, with answers reckoned by hand. */
public final class PromisesTest {
    private static final int NONE = ConkerYard.NONE;
    private static final String FOUR =
        "yard 3;conker 10 4 2;conker 6 5 0;conker 8 3 1;conker 12 2 5;cracked 1 2";
    private static final String TWO = "yard 1;conker 3 1 0;conker 3 3 0";

    public static void main(String[] args) {
        fresh();
        conker();
        roundsWithoutRule();
        roundsByRule();
        clausesAndTests();
        bouts();
        pickleMendString();
        undo();
        would();
        beatsLastOwn();
        cups();
        laddersRingsKings();
        ahead();
        best();
        hardsAndSwings();
        rests();
        pence();
        notes();
        ruledAndLook();
        frost();
        counts();
        images();
        newYard();
        Due.close("PromisesTest");
    }

    private static void due(String call, long got, long want) {
        Due.due(call, got, want);
    }

    /** Promise 1, and what all calls answer then. */
    private static void fresh() {
        ConkerYard x = new ConkerYard();
        int[] counts = {0, 0, 0, NONE, 0, 0, 0, 0, 0, 0, 0, 0};
        for (int what = 0; what < counts.length; what++) {
            due("new: count(" + what + ")", x.count(what), counts[what]);
        }
        due("new: conker", x.conker(0, 0), NONE);
        due("new: round", x.round(), NONE);
        due("new: bout", x.bout(0, 1), NONE);
        due("new: pickle", x.pickle(0, 1), NONE);
        due("new: mend", x.mend(0), NONE);
        due("new: string", x.string(0, 1), NONE);
        due("new: undo", x.undo(), NONE);
        due("new: would", x.would(0, 1, 0), NONE);
        due("new: beats", x.beats(0), NONE);
        due("new: last", x.last(0), NONE);
        due("new: own", x.own(0), NONE);
        due("new: cups", x.cups(NONE), -3);
        due("new: ladder", x.ladder(NONE), -3);
        due("new: rings", x.rings(), NONE);
        due("new: kings", x.kings(), NONE);
        due("new: ahead", x.ahead(0, 0, 0), NONE);
        due("new: smashed", x.smashed(0), NONE);
        due("new: alone", x.alone(), NONE);
        due("new: best", x.best(1, 0), -2);
        due("new: hards", x.hards(0, 0), NONE);
        due("new: swings", x.swings(0), NONE);
        due("new: rests", x.rests(0, 1, 1, 0), NONE);
        due("new: pence", x.pence(0, 0), NONE);
        due("new: note", x.note(0, 0, 1), -2);
        due("new: note(NONE)", x.note(NONE, 0, 0), 0);
        due("new: ruled", x.ruled(0), -3);
        due("new: look", x.look(0, 0), NONE);
        due("new: frost", x.frost(1, 1, 1, 0), NONE);
        due("new: back", x.back(0), NONE);
        due("new: image", x.image(0), 0);
        due("new: back to it", x.back(0), 0);
        due("new: seed", x.seed(5), 0);
    }

    private static void conker() {
        ConkerYard x = Due.with(FOUR);
        int[][] told = {{10, 4, 0, 2, 1}, {6, 5, 2, 0, 1}, {8, 3, 0, 1, 1}, {12, 2, 0, 5, 1}};
        for (int c = 0; c < 4; c++) {
            for (int what = 0; what < 5; what++) {
                due("conker(" + c + ", " + what + ")", x.conker(c, what), told[c][what]);
            }
        }
        due("conker(4, 0)", x.conker(4, 0), NONE);
        due("conker(-1, 0)", x.conker(-1, 0), NONE);
        due("conker(0, 5)", x.conker(0, 5), NONE);
        due("conker(0, -1)", x.conker(0, -1), NONE);
    }

    private static void roundsWithoutRule() {
        ConkerYard x = Due.with(FOUR);
        due("smashed(1), in round 0", x.smashed(1), 0);
        due("smashed(2)", x.smashed(2), 1);
        due("smashed(3)", x.smashed(3), 2);
        due("smashed(0)", x.smashed(0), -2);
        due("smashed(4)", x.smashed(4), NONE);
        due("alone()", x.alone(), 2);
        due("round 0", x.round(), 0);
        due("whole", x.count(5), 13);
        due("score", x.conker(0, 3), 3);
        due("cracks of the smashed one", x.conker(1, 2), 6);
        due("it is not whole", x.conker(1, 4), 0);
        due("smashed of it", x.smashed(1), NONE);
        due("smashed(2) from here", x.smashed(2), 1);
        due("alone() from here", x.alone(), 2);
        due("round 1", x.round(), 0);
        due("cracks of the striker", x.conker(0, 2), 3);
        due("score", x.conker(0, 3), 5);
        due("score of the smashed one", x.conker(2, 3), 0);
        due("round 2", x.round(), 0);
        due("cracks of the striker", x.conker(0, 2), 7);
        due("score", x.conker(0, 3), 11);
        due("whole", x.count(5), 1);
        due("alone() when it is: this round", x.alone(), 3);
        due("round 3: nobody", x.round(), -2);
        due("it heals", x.conker(0, 2), 6);
        due("count(4)", x.count(4), 4);
        due("alone() still: this round", x.alone(), 4);
        x.undo();
        due("alone() with a round undone", x.alone(), 3);
        ConkerYard empty = Due.with("yard 5");
        due("alone() of no conkers", empty.alone(), 0);
        due("a round of no conkers", empty.round(), -2);
        due("count(4)", empty.count(4), 1);
        due("alone() of no conkers", empty.alone(), 1);
    }

    private static void roundsByRule() {
        ConkerYard x = Due.with(FOUR, "hit worth - score", "hit 0");
        x.force(0);
        due("alone()", x.alone(), 2);
        due("smashed(1)", x.smashed(1), 0);
        due("smashed(3)", x.smashed(3), 1);
        due("smashed(2)", x.smashed(2), 2);
        due("round 0", x.round(), 1);
        due("who was struck had strikes, too", x.conker(3, 2), 10);
        due("its score", x.conker(3, 3), 6);
        due("whole", x.count(5), 13);
        due("round 1", x.round(), 2);
        due("score", x.conker(2, 3), 8);
        due("round 2", x.round(), 0);
        due("score", x.conker(0, 3), 11);
        due("cracks", x.conker(0, 2), 3);
        x.force(1);
        due("no sum above 0", x.round(), -2);
        due("cracks heal", x.conker(0, 2), 2);
        due("smashed by nobody", x.smashed(0), -2);
        ConkerYard quiet = Due.with("yard 1;conker 9 1 0;conker 9 1 0;cracked 0 5;cracked 1 1", "hit 0-1", "hit round-2");
        quiet.force(0);
        due("below 0: nobody", quiet.round(), -2);
        due("cracks 0", quiet.conker(0, 2), 4);
        due("cracks 1", quiet.conker(1, 2), 0);
        due("nobody again", quiet.round(), -2);
        due("0 at least", quiet.conker(1, 2), 0);
        due("alone", quiet.alone(), -2);
        quiet.force(1);
        due("round is 2, so 0", quiet.round(), -2);
        due("round is 3, so 1: the least two", quiet.round(), 0);
        due("both have no healing", quiet.conker(0, 2), 3);
        due("both have no healing", quiet.conker(1, 2), 1);
    }

    /** Who strikes first under a rule, of conkers 5 2 7 (cracked 1), 6 3 9 (cracked 2) and 7 1 8. */
    private static void strikes(String rule, int striker, int struck) {
        String text = "yard 2;conker 15 2 7;conker 16 3 9;conker 17 1 8;cracked 0 1;cracked 1 2";
        ConkerYard x = Due.with(text, rule);
        x.force(0);
        due("who strikes by '" + rule + "'", x.round(), striker);
        for (int c = 0; c < 3; c++) {
            boolean in = c == striker || c == struck;
            int before = new int[] {1, 2, 0}[c];
            Due.holds(c + " is in the bout by '" + rule + "'", in == (x.conker(c, 2) > before));
        }
    }

    private static void clausesAndTests() {
        strikes("hit 1", 0, 1);
        strikes("hit striker*10+struck", 2, 1);
        strikes("hit struck*10+striker", 1, 2);
        strikes("hit hard*2-armour", 2, 0);
        strikes("hit armour-hard", 0, 2);
        strikes("hit 10*swing+blow", 1, 0);
        strikes("hit 10*blow+swing", 0, 1);
        strikes("hit cracks*10+gaps", 1, 0);
        strikes("hit gaps*10+cracks", 0, 1);
        strikes("hit score*100+worth", 1, 2);
        strikes("hit worth*100+score", 2, 1);
        strikes("hit whole if striker=2 and struck=0;hit 2", 2, 0);
        strikes("hit strikes if striker=2 and struck=0;hit 1", 2, 0);
        strikes("hit round+1 if striker=1 and struck=2;hit round", 1, 2);
        strikes("hit 5 if striker=1 and struck=0;hit 9 if striker=1;hit 7", 1, 2);
        strikes("hit 0 if striker=0;hit 1", 1, 0);
        strikes("hit 1 if 1=2", -2, -2);
        strikes("hit 1 if not striker=0 and not [struck=0 or struck=1]", 1, 2);
        strikes("hit 1 if striker=2 or striker=1 and struck=2", 1, 2);
        strikes("hit 1 if [striker=2 or striker=1] and struck=0", 1, 0);
        strikes("hit 1 if striker>1", 2, 0);
        strikes("hit 1 if striker>=1", 1, 0);
        strikes("hit 1 if 1<striker", 2, 0);
        strikes("hit 1 if 1<=striker", 1, 0);
        strikes("hit 10-2-3-striker*0 if striker=2;hit 4", 2, 0);
        strikes("hit 100/10/5 if striker=2;hit 1", 2, 0);
        strikes("hit 7%4*2 if striker=2;hit 5", 2, 0);
        strikes("hit 1+0/0+0%0+5/0+5%0 if striker=2;hit 0", 2, 0);
        // 77777 to the fourth goes round below 0; what is left of it by 7 is -4 towards 0
        strikes("hit 1 if 77777*77777*77777*77777<0 and struck=2", 0, 2);
        strikes("hit 1 if 77777*77777*77777*77777%7=0-4 and struck=2", 0, 2);
        strikes("hit 1 if 77777*77777*77777*77777/7*7>77777*77777*77777*77777 and struck=2", 0, 2);
    }

    private static void bouts() {
        ConkerYard x = Due.with(FOUR);
        due("bout(2, 3)", x.bout(2, 3), -2);
        due("cracks", x.conker(2, 2), 6);
        due("cracks", x.conker(3, 2), 9);
        due("nothing heals", x.conker(1, 2), 2);
        due("round stays", x.count(4), 0);
        due("bout(1, 3)", x.bout(1, 3), 3);
        due("score", x.conker(1, 3), 6);
        due("bout(1, 3) again", x.bout(1, 3), NONE);
        due("bout(3, 1)", x.bout(3, 1), NONE);
        due("bout(0, 0)", x.bout(0, 0), NONE);
        due("bout(0, 4)", x.bout(0, 4), NONE);
        due("bout(-1, 0)", x.bout(-1, 0), NONE);
        due("bout(2, 0): who struck first is smashed", x.bout(2, 0), 2);
        due("cracks", x.conker(0, 2), 3);
        due("acts", x.count(9), 3);
    }

    private static void pickleMendString() {
        ConkerYard x = Due.with(FOUR);
        due("pickle(0, 9)", x.pickle(0, 9), 19);
        due("pickle(0, 0)", x.pickle(0, 0), NONE);
        due("pickle(0, 10)", x.pickle(0, 10), NONE);
        due("pickle(4, 1)", x.pickle(4, 1), NONE);
        for (int hard = 28; hard <= 55; hard += 9) {
            due("pickle(0, 9)", x.pickle(0, 9), hard);
        }
        due("60 at most", x.pickle(0, 9), 60);
        due("pickle(3, 1)", x.pickle(3, 1), 13);
        due("mend(1)", x.mend(1), 2);
        due("mend(1) again", x.mend(1), NONE);
        due("mend(0)", x.mend(0), NONE);
        due("mend(9)", x.mend(9), NONE);
        due("string(1, 5)", x.string(1, 5), NONE);
        due("string(1, 0)", x.string(1, 0), NONE);
        due("string(1, 21)", x.string(1, 21), NONE);
        due("string(1, 20)", x.string(1, 20), 5);
        due("string(1, 1)", x.string(1, 1), 20);
        due("string(8, 1)", x.string(8, 1), NONE);
        due("swing", x.conker(1, 1), 1);
        due("acts", x.count(9), 10);
        x.string(2, 20);
        due("a bout smashes", x.bout(2, 1), 1);
        due("pickle a smashed one", x.pickle(1, 1), NONE);
        due("mend a smashed one", x.mend(1), NONE);
        due("string a smashed one", x.string(1, 2), NONE);
    }

    private static void undo() {
        ConkerYard x = Due.with(FOUR);
        due("nothing to undo", x.undo(), NONE);
        x.round();
        x.bout(0, 2);
        x.pickle(3, 4);
        x.mend(0);
        x.string(3, 9);
        due("acts", x.count(9), 5);
        due("undo string", x.undo(), 4);
        due("swing", x.conker(3, 1), 2);
        due("undo mend", x.undo(), 3);
        due("cracks", x.conker(0, 2), 3);
        due("undo pickle", x.undo(), 2);
        due("hard", x.conker(3, 0), 12);
        due("undo bout", x.undo(), 1);
        due("whole", x.count(5), 13);
        due("score", x.conker(2, 3), 1);
        due("undo round", x.undo(), 0);
        due("round", x.count(4), 0);
        due("whole", x.count(5), 15);
        due("cracks", x.conker(1, 2), 2);
        due("no more", x.undo(), NONE);
        for (int i = 0; i < 25; i++) {
            x.string(0, i % 20 + 1 == x.conker(0, 1) ? 20 : i % 20 + 1);
        }
        due("20 at most", x.count(9), 20);
        int swing = 0;
        for (int i = 19; i >= 0; i--) {
            due("undo", x.undo(), i);
            swing = x.conker(0, 1);
        }
        due("the 21st can't be", x.undo(), NONE);
        due("swing behind the fifth", swing, 5);
        x.seed(7);
        x.note(1, 0, 1);
        x.round();
        x.seed(8);
        x.note(1, 1, 1);
        x.undo();
        due("x is no act", x.count(10), 8);
        due("notes are no acts", x.count(8), 2);
    }

    private static void would() {
        ConkerYard x = Due.with(FOUR);
        int[][] due = {
            {0, 1, 0, 1}, {1, 0, 0, 2}, {0, 2, 0, 3}, {2, 0, 0, 4}, {0, 3, 0, 5}, {3, 0, 0, 6},
            {1, 2, 1, 3}, {2, 1, 2, 3}, {1, 3, 3, 4}, {3, 1, 3, 3}, {2, 3, -2, 6}, {3, 2, -2, 6}};
        for (int[] row : due) {
            due("would(" + row[0] + ", " + row[1] + ", 0)", x.would(row[0], row[1], 0), row[2]);
            due("would(" + row[0] + ", " + row[1] + ", 1)", x.would(row[0], row[1], 1), row[3]);
        }
        due("would(0, 0, 0)", x.would(0, 0, 0), NONE);
        due("would(0, 4, 0)", x.would(0, 4, 0), NONE);
        due("would(0, 1, 2)", x.would(0, 1, 2), NONE);
        due("would(0, 1, -1)", x.would(0, 1, -1), NONE);
        due("nothing changes", x.count(7), 2);
        due("nothing changes", x.count(5), 15);
        due("nothing to undo", x.count(9), 0);
        x.bout(0, 1);
        due("would with a smashed one", x.would(0, 1, 0), NONE);
    }

    private static void beatsLastOwn() {
        ConkerYard x = Due.with(FOUR);
        int[][] due = {{14, 1, 1}, {4, 0, -2}, {2, 0, -2}, {2, 0, -2}};
        for (int c = 0; c < 4; c++) {
            due("beats(" + c + ")", x.beats(c), due[c][0]);
            due("last(" + c + ")", x.last(c), due[c][1]);
            due("own(" + c + ")", x.own(c), due[c][2]);
        }
        due("beats(4)", x.beats(4), NONE);
        due("last(-1)", x.last(-1), NONE);
        due("own(4)", x.own(4), NONE);
        x.round();
        // 0 beats 2 and 3, which smash nobody
        due("own of two that smash nobody", x.own(0), 2);
        due("beats of a smashed one", x.beats(1), NONE);
        due("last of a smashed one", x.last(1), NONE);
        due("own of a smashed one", x.own(1), NONE);
        x.round();
        x.round();
        due("the only one", x.own(0), 0);
        due("the only one is the last", x.last(0), 1);
        due("the only one beats nobody", x.beats(0), 0);
    }

    private static void cups() {
        ConkerYard x = Due.with(FOUR);
        due("cups(NONE)", x.cups(NONE), 3);
        due("cups(0)", x.cups(0), 3);
        due("cups(1)", x.cups(1), 0);
        due("cups(4)", x.cups(4), -2);
        due("cups(7)", x.cups(7), -2);
        due("cups(8)", x.cups(8), -3);
        due("cups(-2)", x.cups(-2), -3);
        x.bout(0, 1);
        due("three", x.cups(NONE), -3);
        due("three", x.cups(7), -3);
        x.bout(0, 2);
        due("two", x.cups(NONE), 1);
        due("two, the smashed one", x.cups(1), 0);
        due("two, none such", x.cups(4), -2);
        // nobody smashes anybody: the lesser one goes on, so the least wins all
        ConkerYard eight = Due.with("yard 1" + ";conker 9 1 0".repeat(8));
        due("eight", eight.cups(NONE), 315);
        due("eight, the least", eight.cups(0), 315);
        due("eight, another", eight.cups(1), 0);
        // 3 smashes all; of the others the lesser goes on
        ConkerYard four = Due.with("yard 1;conker 9 1 0;conker 9 1 0;conker 9 1 0;conker 19 20 0");
        due("the greater one smashes", four.cups(3), 3);
        ConkerYard ring = Due.with("yard 1;conker 1 1 0;conker 1 1 0;conker 1 1 0;conker 1 1 0");
        due("who strikes first wins", ring.cups(0), 3);
    }

    private static void laddersRingsKings() {
        ConkerYard x = Due.with(FOUR);
        due("ladder", x.ladder(NONE), 4);
        int[] row = {0, 3, 1, 2, NONE, NONE, NONE, NONE};
        for (int place = 0; place < 8; place++) {
            due("ladder(" + place + ")", x.ladder(place), row[place]);
        }
        due("ladder(8)", x.ladder(8), -3);
        due("ladder(-2)", x.ladder(-2), -3);
        due("rings", x.rings(), 6);
        due("kings", x.kings(), 1);
        ConkerYard quiet = Due.with("yard 1;conker 9 1 0;conker 9 1 0");
        due("ladder of one", quiet.ladder(NONE), 1);
        due("the least", quiet.ladder(0), 0);
        due("not so long", quiet.ladder(1), NONE);
        due("no rings", quiet.rings(), 0);
        due("no kings", quiet.kings(), 0);
        ConkerYard all = Due.with("yard 1" + ";conker 1 1 0".repeat(8));
        due("all in a row", all.ladder(NONE), 8);
        for (int place = 0; place < 8; place++) {
            due("in order", all.ladder(place), place);
        }
        due("all in rings", all.rings(), 255);
        due("all kings", all.kings(), 255);
        ConkerYard empty = Due.with("yard 1");
        due("ladder of none", empty.ladder(NONE), 0);
        due("no place", empty.ladder(0), NONE);
        due("rings of none", empty.rings(), 0);
        due("kings of none", empty.kings(), 0);
        ConkerYard one = Due.with("yard 1;conker 1 1 0");
        due("one is a king", one.kings(), 1);
        due("one has no ring", one.rings(), 0);
    }

    private static void ahead() {
        ConkerYard x = Due.with(FOUR, "hit worth - score");
        x.force(0);
        int[] whole = {15, 13, 5, 1, 1};
        int[] score = {2, 2, 2, 11, 11};
        int[] cracks = {0, 0, 0, 3, 2};
        for (int n = 0; n < 5; n++) {
            due("ahead(99, " + n + ", 0)", x.ahead(99, n, 0), whole[n]);
            due("ahead(0, " + n + ", 1)", x.ahead(0, n, 1), score[n]);
            due("ahead(0, " + n + ", 2)", x.ahead(0, n, 2), cracks[n]);
        }
        due("a smashed one's cracks", x.ahead(1, 1, 2), 6);
        due("a smashed one's score", x.ahead(3, 2, 1), 0);
        due("100", x.ahead(0, 100, 2), 0);
        due("101", x.ahead(0, 101, 0), NONE);
        due("-1", x.ahead(0, -1, 0), NONE);
        due("what 3", x.ahead(0, 0, 3), NONE);
        due("what -1", x.ahead(0, 0, -1), NONE);
        due("conker 4", x.ahead(4, 0, 1), NONE);
        due("conker -1", x.ahead(-1, 0, 2), NONE);
        due("nothing changes", x.count(4), 0);
        ConkerYard late = Due.with("yard 1;conker 1 1 0;conker 9 9 0", "hit 1 if round = 199", "hit 1 if round = 200",
            "hit 1 if round = 100");
        late.force(0);
        due("the 200th is round 199", late.smashed(0), 199);
        due("behind round 199", late.alone(), 199);
        late.force(1);
        due("the 201st", late.smashed(0), -2);
        due("behind the 201st", late.alone(), -2);
        late.round();
        due("one further, the 200th is round 200", late.smashed(0), 200);
        due("behind round 200", late.alone(), 200);
        late.force(2);
        due("rounds are counted from the begin", late.smashed(0), 100);
        late.bout(1, 0);
        due("this round, since one is smashed by hand", late.alone(), 1);
    }

    private static void best() {
        ConkerYard x = Due.with(TWO);
        due("best(1, 0)", x.best(1, 0), 0);
        due("best(1, 1)", x.best(1, 1), 2);
        due("best(2, 0)", x.best(2, 0), 0);
        due("best(3, 0): none is as good", x.best(3, 0), NONE);
        due("best(3, 1)", x.best(3, 1), 1);
        due("best(40, 1)", x.best(40, 1), 1);
        due("best(0, 0)", x.best(0, 0), -2);
        due("best(41, 0)", x.best(41, 0), -2);
        due("best(1, 2)", x.best(1, 2), -2);
        due("best(1, -1)", x.best(1, -1), -2);
        due("nothing changes", x.conker(0, 0), 3);
        due("none at all", Due.with("yard 1").best(1, 1), 0);
    }

    private static void hardsAndSwings() {
        ConkerYard x = Due.with(TWO);
        due("no notes: all", x.hards(0, 0), 30);
        due("no notes: the least", x.hards(0, 1), 1);
        due("no notes: swings", x.swings(0), (1 << 21) - 2);
        due("note: behind round 0", x.note(0, 0, 1), 1);
        due("hards(0, 0)", x.hards(0, 0), 27);
        due("hards(0, 1)", x.hards(0, 1), 4);
        due("hards(1, 0)", x.hards(1, 0), 1);
        due("hards(1, 1)", x.hards(1, 1), 1);
        due("swings(0)", x.swings(0), (1 << 21) - 8);
        due("swings(1)", x.swings(1), 6);
        x.pickle(0, 9);
        x.round();
        due("by the text, not as it is", x.hards(0, 0), 27);
        due("hards(2, 0)", x.hards(2, 0), NONE);
        due("hards(-1, 0)", x.hards(-1, 0), NONE);
        due("hards(0, 2)", x.hards(0, 2), NONE);
        due("swings(2)", x.swings(2), NONE);
        due("note", x.note(0, 0, 0), 2);
        due("none", x.hards(0, 0), 0);
        due("none", x.hards(0, 1), -2);
        due("none", x.swings(0), 0);
        x.note(NONE, 0, 0);
        // 3 cracks behind round 0, 6 behind round 1
        due("note: behind round 1", x.note(1, 0, 1), 1);
        due("hards(0, 0)", x.hards(0, 0), 24);
        due("hards(0, 1)", x.hards(0, 1), 7);
        due("hards(1, 0)", x.hards(1, 0), 1);
        due("swings(0)", x.swings(0), (1 << 21) - 8);
        due("swings(1)", x.swings(1), 2);
        notesAtTheEdge();
        ConkerYard cracked = Due.with("yard 1;conker 9 1 0;cracked 0 6");
        due("above the cracks told", cracked.hards(0, 0), 24);
        due("the least above them", cracked.hards(0, 1), 7);
        cracked.mend(0);
        due("told, not as it is", cracked.hards(0, 1), 7);
        ConkerYard ruled = Due.with(TWO, "hit 0");
        ruled.note(60, 0, 1);
        due("without a rule", ruled.hards(1, 0), 1);
        ruled.force(0);
        due("by the rule in force", ruled.hards(1, 0), 30);
        due("of a smashed one, too", Due.with("yard 1;conker 1 1 0;conker 1 1 0").hards(1, 0), 30);
    }

    /** 1 strikes at 0 in round 60, or in round 61, alone: the last round that a note can be of, and the one behind it. */
    private static void notesAtTheEdge() {
        String text = "yard 1;conker 9 1 0;conker 9 1 0";
        ConkerYard x = Due.with(text, "hit 1 if round = 60 and striker = 1", "hit 1 if round = 61 and striker = 1");
        x.force(0);
        x.note(60, 0, 0);
        due("smashed in round 60: by hard 1 alone", x.hards(0, 0), 1);
        due("smashed in round 60", x.swings(1), (1 << 21) - (1 << 9));
        due("as the text told it 0 stays whole by all", x.ruled(0), 0);
        due("as the text told it 0 stays whole by all", x.ruled(1), -2);
        x.note(59, 0, 1);
        due("whole behind round 59", x.hards(0, 0), 1);
        due("whole behind round 59", x.swings(1), (1 << 21) - (1 << 9));
        x.force(1);
        due("round 61 is not looked at", x.hards(0, 0), 0);
        due("round 61 is not looked at", x.swings(1), 0);
    }

    private static void rests() {
        ConkerYard x = Due.with("yard 1;conker 5 1 0;conker 9 1 3");
        due("rests(0, 1, 1, 0)", x.rests(0, 1, 1, 0), 8);
        due("rests(0, 1, 1, 1)", x.rests(0, 1, 1, 1), 12);
        due("rests(0, 1, 1, 2)", x.rests(0, 1, 1, 2), 4);
        due("rests(1, 0, 1, 1)", x.rests(1, 0, 1, 1), 4);
        due("rests(1, 0, 1, 2)", x.rests(1, 0, 1, 2), 12);
        due("rests(0, 1, 20, 0)", x.rests(0, 1, 20, 0), 8);
        due("rests(0, 1, 0, 0)", x.rests(0, 1, 0, 0), NONE);
        due("rests(0, 1, 21, 0)", x.rests(0, 1, 21, 0), NONE);
        due("rests(0, 1, 1, 3)", x.rests(0, 1, 1, 3), NONE);
        due("rests(0, 1, 1, -1)", x.rests(0, 1, 1, -1), NONE);
        due("rests(0, 0, 1, 0)", x.rests(0, 0, 1, 0), NONE);
        due("rests(0, 2, 1, 0)", x.rests(0, 2, 1, 0), NONE);
        due("nothing changes", x.conker(0, 1), 1);
        noRest();
        x.string(0, 9);
        x.bout(0, 1);
        due("rests with a smashed one", x.rests(0, 1, 1, 0), NONE);
    }

    /**
     * Who swings most is struck. With 4 each 2 is struck, and 1 had rather be the one that 0 can't smash; with
     * any more of 1 there is a swing of 0 that smashes it, and with that one 1 had rather swing 4.
     */
    private static void noRest() {
        ConkerYard x = Due.with("yard 1;conker 2 8 4;conker 5 7 4;conker 2 7 3", "hit blow", "hit 0");
        x.force(0);
        due("no rest", x.rests(0, 1, 1, 0), 0);
        due("no rest", x.rests(0, 1, 1, 1), -2);
        due("no rest", x.rests(1, 0, 1, 2), -2);
        x.force(1);
        due("nobody strikes: all are rests", x.rests(0, 1, 1, 0), 16);
        due("the first", x.rests(0, 1, 1, 1), 4);
        due("the first", x.rests(0, 1, 1, 2), 4);
    }

    private static void pence() {
        ConkerYard x = Due.with("yard 1;conker 9 1 5;conker 9 1 3;conker 9 1 2;conker 1 1 0");
        int[] seven = {4, 2, 1, 0};
        for (int c = 0; c < 4; c++) {
            due("pence(7, " + c + ")", x.pence(7, c), seven[c]);
            due("pence(0, " + c + ")", x.pence(0, c), 0);
        }
        // 4999.5, 2999.7 and 1999.8: two are left
        due("pence(9999, 0)", x.pence(9999, 0), 4999);
        due("pence(9999, 1)", x.pence(9999, 1), 3000);
        due("pence(9999, 2)", x.pence(9999, 2), 2000);
        due("pence(10000, 0)", x.pence(10000, 0), NONE);
        due("pence(-1, 0)", x.pence(-1, 0), NONE);
        due("pence(1, 4)", x.pence(1, 4), NONE);
        due("pence(1, -1)", x.pence(1, -1), NONE);
        ConkerYard alike = Due.with("yard 1;conker 9 1 1;conker 9 1 1;conker 9 1 1");
        due("of several the least", alike.pence(11, 0), 4);
        due("then the next", alike.pence(11, 1), 4);
        due("not the last", alike.pence(11, 2), 3);
        ConkerYard none = Due.with("yard 1;conker 1 1 0;conker 1 1 0");
        due("none has any", none.pence(9, 0), 0);
        none.bout(0, 1);
        due("all to one", none.pence(9, 0), 9);
        due("not whole", none.pence(9, 1), 0);
    }

    private static void notes() {
        ConkerYard x = Due.with(TWO);
        due("note(61, 0, 1)", x.note(61, 0, 1), -2);
        due("note(-2, 0, 1)", x.note(-2, 0, 1), -2);
        due("note(0, 2, 1)", x.note(0, 2, 1), -2);
        due("note(0, -1, 1)", x.note(0, -1, 1), -2);
        due("note(0, 0, 2)", x.note(0, 0, 2), -2);
        due("note(0, 0, -1)", x.note(0, 0, -1), -2);
        for (int i = 1; i <= 10; i++) {
            due("note " + i, x.note(i == 1 ? 60 : 0, 0, i % 2), i);
        }
        due("an eleventh", x.note(0, 0, 1), -2);
        due("count(8)", x.count(8), 10);
        due("note(NONE)", x.note(NONE, 9, 9), 0);
        due("count(8)", x.count(8), 0);
    }

    private static void ruledAndLook() {
        ConkerYard x = Due.with(TWO, "hit 1 if striker = 1", "hit 0", "hit 1 if struck = 0 and striker = 1");
        due("no notes", x.ruled(0), 4);
        due("none is the first", x.ruled(1), NONE);
        due("ruled(2)", x.ruled(2), -3);
        due("ruled(-1)", x.ruled(-1), -3);
        due("look(1, 0)", x.look(1, 0), 0);
        due("look(1, 1)", x.look(1, 1), 3);
        due("look(0, 0)", x.look(0, 0), 0);
        due("look(0, 1)", x.look(0, 1), 3);
        due("look(60, 1)", x.look(60, 1), 3);
        due("look(61, 1)", x.look(61, 1), NONE);
        due("look(-1, 1)", x.look(-1, 1), NONE);
        due("look(1, 2)", x.look(1, 2), NONE);
        due("look(1, -1)", x.look(1, -1), NONE);
        x.note(1, 0, 0);
        due("three", x.ruled(0), 3);
        due("none is the first", x.ruled(1), NONE);
        due("all three alike", x.look(1, 1), 3);
        x.note(NONE, 0, 0);
        x.note(1, 0, 1);
        due("one", x.ruled(0), 1);
        due("which", x.ruled(1), 1);
        due("look", x.look(9, 0), 0);
        due("look", x.look(9, 1), 1);
        x.note(0, 0, 0);
        due("no rule", x.ruled(0), 0);
        due("no rule", x.ruled(1), -2);
        due("look", x.look(1, 0), -2);
        due("look", x.look(1, 1), -2);
        // in force does not matter, nor what was done by hand
        ConkerYard y = Due.with(TWO, "hit 0");
        y.force(0);
        y.string(0, 3);
        y.note(1, 0, 1);
        due("the rule alone", y.ruled(0), 1);
        due("the rule alone", y.ruled(1), 0);
        ConkerYard empty = Due.with("yard 1");
        due("no conkers", empty.look(1, 0), -2);
        due("no conkers", empty.look(1, 1), -2);
        due("no conkers", empty.ruled(0), 1);
        // 0 stays whole by both, 1 is smashed without a rule
        ConkerYard z = Due.with("yard 1;conker 9 9 0;conker 9 1 0", "hit 0");
        due("the better one", z.look(1, 0), 1);
        due("one of each", z.look(1, 1), 1);
        due("behind round 0 already", z.look(0, 0), 1);
        due("behind round 0 already", z.look(0, 1), 1);
        z.note(0, 1, 0);
        due("smashed behind round 0: by none", z.ruled(0), 1);
        due("smashed behind round 0: by none", z.ruled(1), NONE);
        z.note(NONE, 0, 0);
        z.note(0, 1, 1);
        due("whole behind round 0: by the rule", z.ruled(0), 1);
        due("whole behind round 0: by the rule", z.ruled(1), 0);
        // three ways, parted by the rounds in which 1 is smashed: 0, 60 and 61
        ConkerYard late = Due.with("yard 1;conker 9 9 0;conker 9 1 0", "hit 1 if round = 60", "hit 1 if round = 61");
        due("smashed by one of three", late.look(59, 1), 2);
        due("smashed by two of three", late.look(60, 1), 2);
        late.note(59, 1, 1);
        due("by none it is smashed before", late.ruled(0), 2);
        due("parted by 1 behind round 60", late.look(60, 0), 1);
        due("parted by 1 behind round 60", late.look(60, 1), 1);
        due("alike behind round 59", late.look(59, 0), 0);
        due("alike behind round 59", late.look(59, 1), 2);
        late.note(60, 1, 0);
        due("smashed in round 60", late.ruled(0), 1);
        due("smashed in round 60", late.ruled(1), 0);
    }

    private static void frost() {
        ConkerYard x = Due.with("yard 1;conker 9 1 0;conker 9 1 0", "hit 0");
        x.force(0);
        // DRAWS from 0 on: 0, 21468, 9988, 22117
        due("frost(1, 1, 100, 0)", x.frost(1, 1, 100, 0), 2);
        due("frost(1, 1, 100, 1)", x.frost(1, 1, 100, 1), 2);
        due("frost(1, 1, 1, 1)", x.frost(1, 1, 1, 1), 2);
        due("frost(1, 1, 0, 1)", x.frost(1, 1, 0, 1), 0);
        due("frost(2, 1, 88, 1)", x.frost(2, 1, 88, 1), 2);
        due("frost(2, 1, 89, 1)", x.frost(2, 1, 89, 1), 4);
        due("frost(2, 1, 100, 0)", x.frost(2, 1, 100, 0), 4);
        // one behind the other: 0 has 3, heals to 2, then 1 has 3 and both heal
        due("frost(1, 2, 100, 1)", x.frost(1, 2, 100, 1), 3);
        due("x as it was", x.count(10), 0);
        due("nothing stays", x.count(7), 0);
        due("frost(0, 1, 1, 0)", x.frost(0, 1, 1, 0), NONE);
        due("frost(11, 1, 1, 0)", x.frost(11, 1, 1, 0), NONE);
        due("frost(1, 0, 1, 0)", x.frost(1, 0, 1, 0), NONE);
        due("frost(1, 61, 1, 0)", x.frost(1, 61, 1, 0), NONE);
        due("frost(1, 1, -1, 0)", x.frost(1, 1, -1, 0), NONE);
        due("frost(1, 1, 101, 0)", x.frost(1, 1, 101, 0), NONE);
        due("frost(1, 1, 1, 2)", x.frost(1, 1, 1, 2), NONE);
        due("frost(1, 1, 1, -1)", x.frost(1, 1, 1, -1), NONE);
        due("seed", x.seed(12345), 0);
        // the first DRAW is 21468 then: 68, and 9988 of two is 0
        due("frost(1, 1, 68, 1)", x.frost(1, 1, 68, 1), 0);
        due("frost(1, 1, 69, 1)", x.frost(1, 1, 69, 1), 2);
        due("seed below 0", x.seed(-1), NONE);
        due("count(10)", x.count(10), 12345);
        due("the greatest seed", x.seed(2147483647), 12345);
        due("count(10)", x.count(10), 2147483647);
        due("seed(0)", x.seed(0), 2147483647);
        due("count(10)", x.count(10), 0);
        ConkerYard soft = Due.with("yard 1;conker 2 1 0;conker 9 1 0", "hit 0");
        soft.force(0);
        due("as many as hard less 1 at most, then it heals", soft.frost(1, 1, 100, 1), 0);
        due("it is not smashed by frost", soft.frost(10, 60, 100, 0), 20);
        due("no conkers", Due.with("yard 1").frost(10, 60, 100, 0), 0);
    }

    private static void counts() {
        ConkerYard x = Due.with(FOUR, "hit 1", "hit 2");
        x.force(1);
        x.seed(99);
        x.note(3, 1, 1);
        x.round();
        x.bout(2, 3);
        Due.feed(x, "hit");
        // 0 smashed 1 by its first strike; 2 and 3 struck three times each
        int[] counts = {3, 4, 2, 1, 1, 13, 9, 15, 1, 2, 99, 3};
        for (int what = 0; what < counts.length; what++) {
            due("count(" + what + ")", x.count(what), counts[what]);
        }
        due("count(12)", x.count(12), NONE);
        due("count(-1)", x.count(-1), NONE);
    }

    private static void images() {
        ConkerYard x = Due.with(FOUR, "hit 1");
        due("back(0)", x.back(0), NONE);
        due("image(4)", x.image(4), NONE);
        due("image(-1)", x.image(-1), NONE);
        due("back(4)", x.back(4), NONE);
        due("back(-1)", x.back(-1), NONE);
        x.round();
        x.force(0);
        x.seed(5);
        x.note(0, 1, 0);
        due("image(2)", x.image(2), 1);
        due("acts stay with an image", x.count(9), 1);
        x.round();
        x.force(NONE);
        x.seed(6);
        x.note(2, 1, 0);
        Due.rule(x, "hit 2");
        Due.yard(x, "yard 1;conker 1 1 0");
        due("image(3)", x.image(3), 0);
        Due.feed(x, "abc");
        due("back(2)", x.back(2), 1);
        due("round", x.count(4), 1);
        due("conkers", x.count(1), 4);
        due("strikes", x.count(0), 3);
        due("whole", x.count(5), 13);
        due("in force", x.count(3), 0);
        due("x", x.count(10), 5);
        due("notes", x.count(8), 1);
        due("nothing to undo", x.count(9), 0);
        due("undo", x.undo(), NONE);
        due("rules stay", x.count(2), 2);
        due("the tape stays", x.count(11), 3);
        // two strikes of 4 behind 2 cracks, ahead of the second strike back: 3 to 10
        due("what the text told, too", x.hards(1, 0), 8);
        due("back(3)", x.back(3), 0);
        due("conkers", x.count(1), 1);
        due("back(2) again", x.back(2), 1);
        due("conkers", x.count(1), 4);
        due("back(0)", x.back(0), NONE);
        // each part of a note comes back: behind which round, which conker, whole or not
        ConkerYard noted = Due.with(TWO);
        noted.note(0, 0, 1);
        noted.note(1, 0, 0);
        noted.image(0);
        noted.note(NONE, 0, 0);
        noted.note(2, 1, 0);
        noted.note(0, 0, 1);
        due("other notes: 7 to 30", noted.hards(0, 0), 24);
        due("the least", noted.hards(0, 1), 7);
        noted.back(0);
        due("the notes that were: 4 to 6", noted.hards(0, 0), 3);
        due("the least", noted.hards(0, 1), 4);
        ConkerYard none = new ConkerYard();
        none.image(1);
        Due.yard(none, TWO);
        none.back(1);
        due("back to no yard", none.round(), NONE);
        due("back to no yard", none.count(1), 0);
    }

    private static void newYard() {
        ConkerYard x = Due.with(FOUR, "hit 1");
        x.force(0);
        x.seed(3);
        x.note(1, 1, 1);
        x.round();
        due("a new yard", Due.yard(x, TWO), 2);
        due("round", x.count(4), 0);
        due("whole", x.count(5), 3);
        due("notes", x.count(8), 0);
        due("acts", x.count(9), 0);
        due("in force", x.count(3), 0);
        due("x", x.count(10), 3);
        due("rules", x.count(2), 1);
        x.round();
        x.note(0, 0, 1);
        Due.yard(x, "yard 1;conker 9 9 9;conker 9 9 9;conker 9 9 9;cracked 0 9");
        due("with a fault all stays: round", x.count(4), 1);
        due("notes", x.count(8), 1);
        due("acts", x.count(9), 1);
        due("conkers", x.count(1), 2);
        due("in force", x.count(3), 0);
        due("x", x.count(10), 3);
        due("hard", x.conker(1, 0), 3);
        due("what the text told", x.swings(1), 6);
        due("undo", x.undo(), 0);
        due("whole", x.count(5), 3);
        due("but the tape is empty", x.count(11), 0);
    }
}
