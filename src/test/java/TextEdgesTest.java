/** Edges of the tape, of texts and of their faults: part I of the document's terms, and promises 1 to 6. */
public final class TextEdgesTest {
    private static final int NONE = ConkerYard.NONE;
    /** 2 to the 63rd goes round to the least number of 64 bits; 2 to the 62nd does not. */
    private static final String LEAST = "8" + "*8".repeat(20);
    private static final String HALF = "4" + "*8".repeat(20);
    /** Goes round below 0; by 7 there is a rest of -4. */
    private static final String BELOW = "77777*77777*77777*77777";
    private static final String SIXTY = "hit 1" + "+1".repeat(59);

    public static void main(String[] args) {
        fresh();
        longest();
        yardNumbers();
        crackedNumbers();
        yardClauses();
        ninth();
        begin();
        numbers();
        words();
        blanks();
        wordValues();
        reckoning();
        depth();
        parts();
        ruleClauses();
        faults();
        places();
        leastOfOnePlace();
        feed();
        end();
        yard();
        rule();
        force();
        Edge.close("TextEdgesTest");
    }

    private static void yardFault(String text, int place, int kind) {
        Edge.due("yard of '" + text + "'", Due.yard(new ConkerYard(), text), Due.fault(place, kind));
    }

    private static void ruleFault(String text, int place, int kind) {
        Edge.due("rule of '" + text + "'", Due.rule(new ConkerYard(), text), Due.fault(place, kind));
    }

    private static void fine(String text) {
        Edge.due("rule of '" + text + "'", Due.rule(new ConkerYard(), text), 0);
    }

    private static void holds(String test) {
        Edge.due(test, struckBy("hit 1 if " + test), 0);
    }

    private static void fails(String test) {
        Edge.due("not " + test, struckBy("hit 1 if " + test), -2);
    }

    /** Who strikes first by a rule, of two alike. */
    private static int struckBy(String rule) {
        return Due.under("yard 1;conker 30 1 0;conker 30 1 0", rule).round();
    }

    private static void fresh() {
        Edge.says("No YARD, no RULES, none IN FORCE.");
        int[] counts = {0, 0, 0, NONE, 0, 0, 0, 0, 0, 0, 0, 0};
        for (int what = 0; what < counts.length; what++) {
            Edge.due("count(" + what + ")", new ConkerYard().count(what), counts[what]);
        }
        Edge.due("force(0)", new ConkerYard().force(0), -2);
        Edge.due("force(NONE)", new ConkerYard().force(NONE), NONE);
        Edge.due("ladder(NONE)", new ConkerYard().ladder(NONE), -3);
        for (int k = 0; k < 4; k++) {
            Edge.due("back(" + k + ")", new ConkerYard().back(k), NONE);
        }
    }

    private static void longest() {
        Edge.says("A YARD is a text of at most 400 bytes");
        String head = "yard 1;conker 9 9";
        String text = head + " ".repeat(398 - head.length()) + "20";
        ConkerYard x = new ConkerYard();
        Edge.due("400 bytes", Due.yard(x, text), 1);
        Edge.due("the last of them counts", x.conker(0, 3), 20);
        Edge.due("399 bytes", Due.yard(x, text.substring(0, 399)), 1);
        Edge.due("the last of them counts", x.conker(0, 3), 2);
        fine("hit" + " ".repeat(396) + "1");
        ruleFault("hit 1" + " ".repeat(394) + ";", 400, 0);
        Edge.says("CLAUSE { ; CLAUSE }, 40 at most");
        // 400 bytes have room for 36
        Edge.due("36 clauses", Due.yard(x, "yard1;conker1 1 0" + ";cracked0 0".repeat(34)), 1);
    }

    private static void yardNumbers() {
        Edge.says("STRIKES 1 to 9");
        yardFault("yard 0", 5, 1);
        yardFault("yard 10", 5, 1);
        for (int strikes = 1; strikes <= 9; strikes += 8) {
            Edge.due("strikes", Due.with("yard " + strikes).count(0), strikes);
        }
        Edge.says("HARD 1 to 30; SWING 1 to 20; SCORE 0 to 20");
        told("conker 1 1 0", 1, 1, 0);
        told("conker 30 20 20", 30, 20, 20);
        yardFault("yard 1;conker 0 1 0", 14, 1);
        yardFault("yard 1;conker 31 1 0", 14, 1);
        yardFault("yard 1;conker 1 0 0", 16, 1);
        yardFault("yard 1;conker 1 21 0", 16, 1);
        yardFault("yard 1;conker 1 1 21", 18, 1);
        yardFault("yard 1;conker 1 1 -1", 18, 0);
        yardFault("yard 1;conker 99999 1 0", 14, 1);
    }

    private static void told(String clause, int hard, int swing, int score) {
        ConkerYard x = Due.with("yard 1;" + clause);
        Edge.due("hard of " + clause, x.conker(0, 0), hard);
        Edge.due("swing of " + clause, x.conker(0, 1), swing);
        Edge.due("score of " + clause, x.conker(0, 3), score);
    }

    private static void crackedNumbers() {
        Edge.says("a CONKER that was told");
        yardFault("yard 1;cracked 0 0", 15, 1);
        yardFault("yard 1;conker 9 1 0;cracked 1 0", 28, 1);
        yardFault("yard 1;cracked 0 0;conker 9 1 0", 15, 1);
        yardFault("yard 1;conker 9 1 0;cracked 1 0;conker 9 1 0", 28, 1);
        String eight = "yard 1" + ";conker 9 1 0".repeat(8);
        Edge.due("the eighth", Due.with(eight + ";cracked 7 8").conker(7, 2), 8);
        yardFault(eight + ";cracked 8 0", eight.length() + 9, 1);
        Edge.says("CRACKS 0 to 29, less than it is HARD");
        Edge.due("0", Due.with("yard 1;conker 1 1 0;cracked 0 0").conker(0, 2), 0);
        Edge.due("29", Due.with("yard 1;conker 30 1 0;cracked 0 29").conker(0, 2), 29);
        yardFault("yard 1;conker 1 1 0;cracked 0 1", 30, 1);
        yardFault("yard 1;conker 29 1 0;cracked 0 29", 31, 1);
        yardFault("yard 1;conker 30 1 0;cracked 0 30", 31, 1);
        yardFault("yard 1;conker 30 1 0;cracked 0 31", 31, 1);
        Edge.says("of one the last told");
        Edge.due("less", Due.with("yard 1;conker 9 1 0;cracked 0 8;cracked 0 3").conker(0, 2), 3);
        Edge.due("none", Due.with("yard 1;conker 9 1 0;cracked 0 8;cracked 0 0").conker(0, 2), 0);
        Edge.due("more", Due.with("yard 1;conker 9 1 0;cracked 0 3;cracked 0 8").conker(0, 2), 8);
        yardFault("yard 1;conker 9 1 0;cracked 0 9;cracked 0 0", 30, 1);
    }

    private static void yardClauses() {
        Edge.says("once, the first CLAUSE");
        yardFault("yard 1;yard 1", 7, 4);
        yardFault("yard 1;conker 9 1 0; yard 1", 21, 4);
        Edge.says("a second yard, another CLAUSE ahead of it");
        yardFault("conker 9 1 0;yard 1", 0, 4);
        yardFault(" cracked 0 0;yard 1", 1, 4);
        yardFault("", 0, 0);
        yardFault("hit 1", 0, 0);
    }

    private static void ninth() {
        Edge.says("CONKERS 0 to 7, in the order told");
        StringBuilder eight = new StringBuilder("yard 2");
        for (int i = 1; i <= 8; i++) {
            eight.append(";conker ").append(i).append(" 1 0");
        }
        ConkerYard x = new ConkerYard();
        Edge.due("eight", Due.yard(x, eight.toString()), 8);
        for (int i = 0; i < 8; i++) {
            Edge.due("conker(" + i + ", 0)", x.conker(i, 0), i + 1);
        }
        Edge.due("none", Due.yard(x, "yard 2"), 0);
        Edge.says("a ninth CONKER (at its first byte)");
        yardFault(eight + " ; conker 1 1 0", eight.length() + 3, 4);
        yardFault(eight + ";conker 0 0 0", eight.length() + 1, 4);
        yardFault(eight + ";conker", eight.length() + 1, 4);
    }

    private static void begin() {
        Edge.says("It is ROUND 0; all are WHOLE, CRACKS 0 but for what is told.");
        ConkerYard x = Due.with("yard 1;conker 9 9 0;conker 9 1 0;conker 9 1 0;cracked 0 5;cracked 2 3");
        x.round();
        Edge.due("one is smashed", x.count(5), 5);
        Due.yard(x, "yard 1;conker 8 8 0;conker 8 1 0;conker 8 1 0;cracked 1 4");
        Edge.due("round", x.count(4), 0);
        Edge.due("whole", x.count(5), 7);
        int[] cracks = {0, 4, 0};
        for (int c = 0; c < 3; c++) {
            Edge.due("cracks of " + c, x.conker(c, 2), cracks[c]);
        }
    }

    private static void numbers() {
        Edge.says("NUMBER (1 to 5 digits, as far as digits go on)");
        holds("99999=9*11111");
        holds("99999>99998");
        holds("00007=7");
        holds("00000=0");
        ruleFault("hit 100000", 4, 1);
        ruleFault("hit 000000", 4, 1);
        ruleFault("hit 1 if 1=999999999999", 11, 1);
        ruleFault("hit 12 3", 7, 0);
        Edge.due("five digits", Due.with("yard 00009").count(0), 9);
        yardFault("yard 000009", 5, 1);
        yardFault("yard 1;conker 000009 1 0", 14, 1);
        yardFault("yard 1;conker 9 000001 0", 16, 1);
        yardFault("yard 1;conker 9 1 000000", 18, 1);
        yardFault("yard 1;conker 9 1 0;cracked 000000 0", 28, 1);
        yardFault("yard 1;conker 9 1 0;cracked 0 000000", 30, 1);
        ConkerYard five = Due.with("yard 00001;conker 00009 00002 00003;cracked 00000 00008");
        for (int what = 0; what < 4; what++) {
            Edge.due("five digits each, what " + what, five.conker(0, what), new int[] {9, 2, 8, 3}[what]);
        }
        yardFault("yard 1 2", 7, 0);
        fine("hit 5if 1<2and 2<3");
    }

    private static void words() {
        Edge.says("WORDS (small letters, as far as these go on)");
        ruleFault("hit hardswing", 4, 0);
        ruleFault("hit hard swing", 9, 0);
        ruleFault("hitstriker", 0, 0);
        ruleFault("hit 1 ifstriker=0", 6, 0);
        ruleFault("hit Hard", 4, 0);
        ruleFault("hit harD", 4, 0);
        ruleFault("hit hardD", 8, 0);
        ruleFault("hit har", 4, 0);
        ruleFault("hit hardh", 4, 0);
        ruleFault("hita 1", 0, 0);
        ruleFault("hitz 1", 0, 0);
        ruleFault("hit`", 3, 0);
        ruleFault("hit{", 3, 0);
        yardFault("yardconker", 0, 0);
        yardFault("yar", 0, 0);
        fine("hit1if striker<0or struck<0");
    }

    /** Two are left of three, and it is round 1: each word has a value that no other one has beside it. */
    private static void wordValues() {
        Edge.says("of a CONKER that strikes first at another one, both WHOLE");
        String rule = "hit 1 if striker=2 and struck=1 and hard=21 and swing=5 and cracks=3 and score=7 and armour=29"
            + " and blow=6 and gaps=4 and worth=11 and whole=2 and strikes=8 and round=1";
        ConkerYard x = Due.under("yard 8;conker 1 1 9;conker 20 6 1;conker 21 5 7;cracked 1 5;cracked 2 4", rule);
        x.bout(1, 0);
        x.pickle(1, 9);
        Edge.due("not in round 0", x.round(), -2);
        Edge.due("in round 1", x.round(), 2);
        ConkerYard smashed = Due.under("yard 1;conker 9 9 0;conker 1 1 0;conker 9 9 0", "hit 9 if striker=1 or struck=1;hit 1");
        smashed.bout(0, 1);
        Edge.due("not one that is smashed", smashed.round(), 0);
        Edge.due("but the one that is whole", smashed.count(5), 1);
    }

    private static void blanks() {
        Edge.says("Blanks (32) stand between as one likes.");
        fine("  hit   1  if  [  not  1  <=  2  ]  and 1>=2  ");
        fine("hit1if[not1<=2]and1>=2");
        Edge.due("no blanks", Due.yard(new ConkerYard(), "yard3;conker1 1 0;cracked0 0"), 1);
        for (int sign : new int[] {0, 9, 10, 13, 31, 33, 127, 160, 255}) {
            ruleFault("hit" + (char) sign + "1", 3, 0);
            yardFault("yard 1" + (char) sign, 6, 0);
        }
        yardFault("ya rd 1", 0, 0);
        yardFault("yard 1;conker 1 1 0 0", 20, 0);
        ruleFault("hit 1 if 1 < = 2", 13, 0);
        ruleFault("hit 1 if 1 > = 2", 13, 0);
    }

    private static void reckoning() {
        Edge.says("/ is towards 0, % its rest, both 0 by 0; all goes round in 64 bits.");
        holds("7/2=3");
        holds("7%2=1");
        holds("1/2=0");
        holds(BELOW + "/7*7=" + BELOW + "+4");
        holds(BELOW + "%7=0-4");
        holds("5/0=0");
        holds("5%0=0");
        holds("0/0=0");
        holds("0%0=0");
        holds("5/round+5%round=0");
        holds(LEAST + "<0");
        holds("2*" + LEAST + "=0");
        fails(HALF + "<0");
        holds(HALF + "+" + HALF + "<0");
        holds("0-" + LEAST + "<0");
        holds("0-" + LEAST + "-1>0");
        holds("0-" + LEAST + "-1+1<0");
        Edge.due("the greatest of 64 bits is greater", struckBy("hit 0-" + LEAST + "-1 if striker=1;hit 99999"), 1);
        Edge.due("the least is not above 0", struckBy("hit " + LEAST), -2);
        Edge.says("TERM { (+ or -) TERM }");
        holds("10-3-2=5");
        holds("10-3*2=4");
        holds("10-8/4-1=7");
        Edge.says("VALUE { (* or / or %) VALUE }");
        holds("100/10/5=2");
        holds("7%4*2=6");
        holds("2*7%4=2");
        Edge.says("PART { or PART }");
        holds("1=1 or 1=2 or 1=2");
        holds("1=2 or 1=1 or 1=2");
        holds("1=2 or 1=2 or 1=1");
        holds("1=1 or 1=1 and 1=2");
        fails("1=2 or 1=2 or 1=2");
        fails("[1=1 or 1=1] and 1=2");
        Edge.says("not FACT");
        fails("not 1=1 and 1=2");
        holds("not not 1=1");
        holds("not [1=1 and 1=2]");
        Edge.says("SIGN one of < <= = >= >");
        holds("1<2 and 1<=2 and 2<=2 and 2=2 and 2>=2 and 2>=1 and 2>1");
        fails("2<2 or 2<=1 or 1=2 or 1>=2 or 2>2");
    }

    private static void depth() {
        Edge.says("[ and not lie within one another 10 deep at most");
        String ten = "[".repeat(10) + "1=1" + "]".repeat(10);
        fine("hit 1 if " + ten);
        fine("hit 1 if " + "not ".repeat(10) + "1=1");
        fine("hit 1 if " + "[not ".repeat(5) + "1=1" + "]".repeat(5));
        fine("hit 1 if " + ten + " and " + ten + " or not [ 1=1 ]; hit 1 if " + ten);
        holds("not ".repeat(10) + "1=1");
        fails("not ".repeat(9) + "1=1");
        Edge.says("too deep (at the sign that opens, or the word not)");
        ruleFault("hit 1 if [" + ten + "]", 19, 2);
        ruleFault("hit 1 if " + "not ".repeat(11) + "1=1", 49, 2);
        ruleFault("hit 1 if " + "[not ".repeat(5) + " not 1=1", 35, 2);
        ruleFault("hit 1 if " + "[not ".repeat(5) + " [1=1", 35, 2);
        ruleFault("hit 1 if " + ten + " and [" + ten + "]", 9 + 23 + 5 + 10, 2);
        ruleFault("hit 1 if " + "[".repeat(10) + "1=1 or not 1=1", 9 + 10 + 7, 2);
    }

    private static void parts() {
        Edge.says("at most 60 VALUES (of SUMS) and FACTS made of a SIGN, together.");
        fine(SIXTY);
        String facts = "hit 1 if 1=1" + " or 1=1".repeat(18);
        fine(facts + ";hit 1+1");
        fine(facts + ";hit hard;hit hard");
        ConkerYard x = new ConkerYard();
        for (int rule = 0; rule < 6; rule++) {
            Edge.due("sixty in each rule", Due.rule(x, SIXTY), rule);
        }
        Edge.says("one VALUE or FACT too many (at its first byte; of a FACT at its SIGN)");
        ruleFault(SIXTY + " + 1", SIXTY.length() + 3, 3);
        ruleFault(SIXTY + "+hard", SIXTY.length() + 1, 3);
        ruleFault(SIXTY + ";hit hard", SIXTY.length() + 5, 3);
        ruleFault(SIXTY + " if 1=1", SIXTY.length() + 4, 3);
        ruleFault("hit 1" + "+1".repeat(58) + " if 1 = 1", 121 + 6, 3);
        ruleFault("hit 1" + "+1".repeat(57) + " if 1 = 1", 119 + 8, 3);
        ruleFault(facts + " or 1+1 = 1", facts.length() + 8, 3);
        ruleFault(facts + " or [ not 1+1 >= 1 ]", facts.length() + 14, 3);
    }

    private static void ruleClauses() {
        Edge.says("RULES 0 to 5: texts likewise, 12 CLAUSES at most");
        String twelve = "hit 1" + ";hit 1".repeat(11);
        fine(twelve);
        Edge.says("one CLAUSE too many");
        ruleFault(twelve + "; hit 1", twelve.length() + 2, 4);
        ruleFault(twelve + ";hit", twelve.length() + 1, 4);
        String last = "hit 0 if 1=2" + ";hit 0 if 1=2".repeat(10) + ";hit 1 if striker=1";
        Edge.due("the twelfth counts", struckBy(last), 1);
    }

    private static void faults() {
        Edge.says("FAULTS, the first along the text");
        yardFault("yard 0;conker 0 0 0", 5, 1);
        yardFault("yard 1;conker 1 0 99", 16, 1);
        yardFault("yard 1;yard 0", 7, 4);
        ruleFault("hit x;hit 100000", 4, 0);
        ruleFault("hit 100000;hit x", 4, 1);
        ruleFault("hit 1 if " + "[".repeat(11) + "100000", 19, 2);
        Edge.says("a byte or WORD that can't stand there, or the end (behind the last byte)");
        yardFault("yard", 4, 0);
        yardFault("yard   ", 7, 0);
        yardFault("yard 1;", 7, 0);
        yardFault("yard 1; ", 8, 0);
        yardFault("yard 1;conker 1 1", 17, 0);
        yardFault("yard 1;;", 7, 0);
        yardFault("   ", 3, 0);
        ruleFault("", 0, 0);
        ruleFault("hit 1 if [1=1", 13, 0);
        ruleFault("hit 1 if [1=1  ", 15, 0);
        ruleFault("hit 1 if 1=1]", 12, 0);
        ruleFault("hit 1 if 1", 10, 0);
        ruleFault("hit 1 if not", 12, 0);
        ruleFault("hit 1 if 1=1 or", 15, 0);
        ruleFault("hit 1 if 1=1=1", 12, 0);
        ruleFault("hit 1 if 1 2", 11, 0);
        ruleFault("hit 1 if [1]=1", 11, 0);
        ruleFault("hit 1+", 6, 0);
        ruleFault("hit [1=1]", 4, 0);
        ruleFault("hit not 1=1", 4, 0);
        for (String word : new String[] {"yard", "conker", "cracked", "hit", "if", "not", "and", "or"}) {
            ruleFault("hit " + word, 4, 0);
            ruleFault("hit 1 if 1 < " + word, 13, 0);
        }
        ruleFault("yard 1", 0, 0);
    }

    private static void places() {
        Edge.says("1 + 8 * its place");
        Edge.due("place 0", Due.yard(new ConkerYard(), "x"), -3);
        Edge.due("place 1", Due.yard(new ConkerYard(), " x"), -11);
        Edge.due("place 5, kind 1", Due.yard(new ConkerYard(), "yard 0"), -44);
        Edge.due("place 399", Due.yard(new ConkerYard(), " ".repeat(399) + "x"), -3195);
        Edge.due("place 400", Due.yard(new ConkerYard(), " ".repeat(400)), -3203);
        Edge.due("place 0, kind 4", Due.yard(new ConkerYard(), "conker"), -7);
    }

    private static void leastOfOnePlace() {
        Edge.says("Of one place the least.");
        yardFault("yard 1 123456", 7, 0);
        yardFault("yard 1;123456", 7, 0);
        ruleFault("hit 1 123456", 6, 0);
        ruleFault(SIXTY + "+100000", SIXTY.length() + 1, 1);
        ruleFault(SIXTY + "+x", SIXTY.length() + 1, 0);
        ruleFault(SIXTY + "+", SIXTY.length() + 1, 0);
        ruleFault(SIXTY + " if [1=1]", SIXTY.length() + 5, 3);
        ruleFault("hit 1" + "+1".repeat(58) + " if 1", 121 + 5, 0);
        String twelve = "hit 1" + ";hit 1".repeat(11);
        ruleFault(twelve + ";hits", twelve.length() + 1, 0);
        ruleFault(twelve + ";", twelve.length() + 1, 0);
        String eight = "yard 1" + ";conker 9 1 0".repeat(8);
        yardFault(eight + ";conkers", eight.length() + 1, 0);
        yardFault(eight + ";", eight.length() + 1, 0);
    }

    private static void feed() {
        Edge.says("of each number the highest first: how many it has");
        ConkerYard x = new ConkerYard();
        // "yard 9", its sixth byte the second of the second number; a byte of all bits is no blank
        Edge.due("feed", x.feed(0x79617264, 0x20392020, 0x20202020, 0x20202020, 0x202020FF), 20);
        Edge.due("yard()", x.yard(), Due.fault(19, 0));
        Edge.due("feed", x.feed(0xFF617264, 0, 0, 0, 0), 20);
        Edge.due("yard()", x.yard(), Due.fault(0, 0));
        Edge.says("NONE, and none comes, if it would have more than 400");
        Due.feed(x, "yard 8" + " ".repeat(374));
        Edge.due("feed behind 380", x.feed(0x20202020, 0x20202020, 0x20202020, 0x20202020, 0x20202020), 400);
        for (int n = 400; n > 380; n--) {
            Edge.due("end", x.end(n), n);
            Edge.due("feed behind " + n, x.feed(0, 0, 0, 0, 0), NONE);
            Edge.due("count(11)", x.count(11), n);
        }
        Edge.due("none came", x.yard(), 0);
        Edge.due("strikes", x.count(0), 8);
        Edge.stays(TextEdgesTest::full, "feed", NONE, y -> y.feed(1, 2, 3, 4, 5));
    }

    private static ConkerYard full() {
        ConkerYard x = Edge.busy();
        Due.feed(x, "yard 8;conker 7 7 7" + " ".repeat(381 - 19));
        return x;
    }

    private static void end() {
        Edge.says("NONE, and nothing happens, if it has not so many, or n is below 0.");
        Edge.stays(Edge::busy, "end(-1)", NONE, x -> x.end(-1));
        Edge.stays(Edge::busy, "end(20)", NONE, x -> x.end(20));
        Edge.stays(Edge::busy, "end(19), all of it", 19, x -> x.end(19));
        for (int far : Edge.FAR) {
            Edge.stays(Edge::busy, "end(" + far + ")", NONE, x -> x.end(far));
        }
        Edge.stays(ConkerYard::new, "end(1)", NONE, x -> x.end(1));
        Edge.stays(ConkerYard::new, "end(0)", 0, x -> x.end(0));
        Edge.says("The TAPE has its first n bytes alone: n");
        ConkerYard x = new ConkerYard();
        Due.feed(x, "yard 91 and more");
        Edge.due("end(6)", x.end(6), 6);
        Edge.due("end(7), which is no more", x.end(7), NONE);
        Edge.due("yard()", x.yard(), 0);
        Edge.due("strikes", x.count(0), 9);
        Due.feed(x, "yard 91 and more");
        Edge.due("end(5)", x.end(5), 5);
        Edge.due("what is fed comes behind these", x.feed(0x34202020, 0x20202020, 0x20202020, 0x20202020, 0x20202020), 25);
        Edge.due("yard()", x.yard(), 0);
        Edge.due("strikes", x.count(0), 4);
        Due.feed(x, "yard 9");
        Edge.due("end(0)", x.end(0), 0);
        Edge.due("yard() of nothing", x.yard(), Due.fault(0, 0));
    }

    private static void yard() {
        Edge.says("-2 - its FAULT, and all stays.");
        ConkerYard spoilt = Edge.busy();
        Due.feed(spoilt, "yard 7;conker 3 2 21");
        Edge.due("yard()", spoilt.yard(), Due.fault(18, 1));
        ConkerYard without = Edge.busy();
        without.end(0);
        Edge.alike("yard()", spoilt, without);
        ConkerYard acts = Edge.busy();
        Due.yard(acts, "yard");
        Edge.due("the acts stay, too", acts.undo(), 2);
        Edge.due("cracks", acts.conker(3, 2), 0);
        Edge.stays(ConkerYard::new, "yard() of nothing", -3, ConkerYard::yard);
        Edge.says("(no NOTES, nothing to be UNDONE; the RULE IN FORCE and x stay)");
        ConkerYard x = Edge.busy();
        Edge.due("yard()", x.yard(), 1);
        int[] counts = {7, 1, 2, 1, 0, 1, 1, 0, 0, 0, 99, 0};
        for (int what = 0; what < counts.length; what++) {
            Edge.due("count(" + what + ")", x.count(what), counts[what]);
        }
        Edge.due("undo()", x.undo(), NONE);
        Edge.due("images stay", x.back(3), 1);
        Edge.says("The TAPE, which is empty then, is the YARD in place of the one there was");
        ConkerYard twice = Edge.busy();
        Edge.due("yard()", twice.yard(), 1);
        Edge.due("yard() again", twice.yard(), Due.fault(0, 0));
        Edge.due("conkers", twice.count(1), 1);
        Edge.due("a conker that there was", twice.conker(1, 0), NONE);
        Edge.due("what the text told: hard is above 0", twice.hards(0, 0), 30);
    }

    private static ConkerYard sixRules() {
        ConkerYard x = Edge.busy();
        for (int rule = 2; rule < 6; rule++) {
            Due.rule(x, "hit 0");
        }
        Due.feed(x, "yard 7;conker 3 2 1");
        return x;
    }

    private static void rule() {
        Edge.says("NONE, and nothing happens: there are 6.");
        Edge.stays(TextEdgesTest::sixRules, "rule()", NONE, ConkerYard::rule);
        ConkerYard six = sixRules();
        Edge.due("a text that is a rule", Due.rule(six, "hit 7"), NONE);
        Edge.due("it stays on the tape", six.count(11), 5);
        Edge.due("rules", six.count(2), 6);
        Edge.says("The TAPE, which is empty then, is a RULE: its number");
        ConkerYard x = new ConkerYard();
        for (int rule = 0; rule < 6; rule++) {
            Edge.due("rule()", Due.rule(x, "hit 1 if striker = " + rule % 2), rule);
            Edge.due("count(11)", x.count(11), 0);
        }
        Due.yard(x, "yard 1;conker 30 1 0;conker 30 1 0");
        x.force(5);
        Edge.due("the sixth is its own", x.round(), 1);
        Edge.says("-2 - its FAULT; NONE, and nothing happens");
        ConkerYard spoilt = Edge.busy();
        Edge.due("rule()", spoilt.rule(), Due.fault(0, 0));
        ConkerYard without = Edge.busy();
        without.end(0);
        Edge.alike("rule()", spoilt, without);
        Edge.due("rule() of nothing", new ConkerYard().rule(), -3);
    }

    private static void force() {
        Edge.says("-2, and nothing happens, if there is none such.");
        Edge.stays(Edge::busy, "force(2)", -2, x -> x.force(2));
        Edge.stays(Edge::busy, "force(-2)", -2, x -> x.force(-2));
        Edge.stays(TextEdgesTest::sixRules, "force(6)", -2, x -> x.force(6));
        for (int far : Edge.FAR) {
            Edge.stays(Edge::busy, "force(" + far + ")", -2, x -> x.force(far));
        }
        Edge.stays(ConkerYard::new, "force(0)", -2, x -> x.force(0));
        Edge.says("A RULE is IN FORCE (NONE: none): which was");
        Edge.stays(Edge::busy, "the same again", 1, x -> x.force(1));
        Edge.stays(ConkerYard::new, "none again", NONE, x -> x.force(NONE));
        ConkerYard x = sixRules();
        int[] rules = {5, 0, NONE, 1, NONE};
        int before = 1;
        for (int rule : rules) {
            Edge.due("force(" + rule + ")", x.force(rule), before);
            Edge.due("count(3)", x.count(3), rule);
            before = rule;
        }
    }
}
