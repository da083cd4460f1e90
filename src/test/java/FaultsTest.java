/** Promises 2 to 6: the tape, the two languages and their faults, the rule in force. */
public final class FaultsTest {
    private static final String LONG_DIGITS = "hit 000001";

    public static void main(String[] args) {
        tape();
        yards();
        yardFaults();
        longTexts();
        rules();
        ruleFaults();
        depth();
        parts();
        clauses();
        force();
        Due.close("FaultsTest");
    }

    private static void tape() {
        ConkerYard x = new ConkerYard();
        Due.due("count(11)", x.count(11), 0);
        Due.due("end(0)", x.end(0), 0);
        Due.due("end(1)", x.end(1), -1);
        Due.due("end(-1)", x.end(-1), -1);
        for (int i = 1; i <= 20; i++) {
            Due.due("feed " + i, x.feed(0x79617264, 0x20333B63, 0xFFFFFFFF, 0x80000000, 0), 20 * i);
        }
        Due.due("feed 21", x.feed(1, 2, 3, 4, 5), -1);
        Due.due("count(11)", x.count(11), 400);
        Due.due("end(401)", x.end(401), -1);
        Due.due("end(400)", x.end(400), 400);
        Due.due("end(381)", x.end(381), 381);
        Due.due("feed over", x.feed(1, 2, 3, 4, 5), -1);
        Due.due("end(380)", x.end(380), 380);
        Due.due("feed to 400", x.feed(1, 2, 3, 4, 5), 400);
        Due.due("end(6)", x.end(6), 6);
        Due.due("bytes are the highest first", x.yard(), 0);
        Due.due("empty behind a yard", x.count(11), 0);
        Due.due("yard of nothing", x.yard(), Due.fault(0, 0));
        Due.due("rule of nothing", x.rule(), Due.fault(0, 0));
    }

    private static void yards() {
        ConkerYard x = new ConkerYard();
        Due.due("no conkers", Due.yard(x, "yard 9"), 0);
        Due.due("strikes", x.count(0), 9);
        Due.due("no blanks", Due.yard(x, "yard3;conker1 1 0;conker30 20 20"), 2);
        Due.due("blanks", Due.yard(x, "  yard   00001  ;  conker  005 06 7 ;cracked 0 4 ; cracked 0 3  "), 1);
        Due.due("strikes", x.count(0), 1);
        Due.due("hard", x.conker(0, 0), 5);
        Due.due("swing", x.conker(0, 1), 6);
        Due.due("cracks, the last told", x.conker(0, 2), 3);
        Due.due("score", x.conker(0, 3), 7);
        Due.due("whole", x.conker(0, 4), 1);
        StringBuilder eight = new StringBuilder("yard 2");
        for (int i = 1; i <= 8; i++) {
            eight.append(";conker ").append(i).append(" 1 0");
        }
        Due.due("eight", Due.yard(x, eight.toString()), 8);
        for (int i = 0; i < 8; i++) {
            Due.due("in the order told", x.conker(i, 0), i + 1);
        }
        Due.due("a ninth", Due.yard(x, eight + " ; conker 1 1 0"), Due.fault(eight.length() + 3, 4));
        Due.due("a ninth of a wrong word", Due.yard(x, eight + ";conkers 1 1 0"), Due.fault(eight.length() + 1, 0));
        Due.due("all stays", x.count(1), 8);
        Due.due("but not the tape", x.count(11), 0);
        Due.due("cracked behind eight", Due.yard(x, eight + ";cracked 7 7;cracked 7 0"), 8);
    }

    private static void yardFault(String text, int place, int kind) {
        ConkerYard x = new ConkerYard();
        Due.due("yard of '" + text + "'", Due.yard(x, text), Due.fault(place, kind));
        Due.due("the tape is empty behind yard '" + text + "'", x.count(11), 0);
        Due.due("no yard", x.round(), -1);
        Due.due("a yard fed behind '" + text + "'", fedYard(x), 0);
    }

    private static void yardFaults() {
        yardFault("", 0, 0);
        yardFault("   ", 3, 0);
        yardFault("yard", 4, 0);
        yardFault("yard  ", 6, 0);
        yardFault("yard 0", 5, 1);
        yardFault("yard 10", 5, 1);
        yardFault("yard 000001", 5, 1);
        yardFault("yard x", 5, 0);
        yardFault("yard -1", 5, 0);
        yardFault("yards 1", 0, 0);
        yardFault("Yard 1", 0, 0);
        yardFault("1", 0, 0);
        yardFault("yard 1;", 7, 0);
        yardFault("yard 1;;", 7, 0);
        yardFault("yard 1 1", 7, 0);
        yardFault("yard 1 yard", 7, 0);
        yardFault("yard 1;yard 1", 7, 4);
        yardFault("yard 1; yard", 8, 4);
        yardFault("conker 1 1 0", 0, 4);
        yardFault(" cracked 0 0", 1, 4);
        yardFault("hit 1", 0, 0);
        yardFault("yard 1;hit 1", 7, 0);
        yardFault("yard 1;conker 0 1 0", 14, 1);
        yardFault("yard 1;conker 31 1 0", 14, 1);
        yardFault("yard 1;conker 1 0 0", 16, 1);
        yardFault("yard 1;conker 1 21 0", 16, 1);
        yardFault("yard 1;conker 1 1 21", 18, 1);
        yardFault("yard 1;conker 1 1", 17, 0);
        yardFault("yard 1;conker 1;1 1", 15, 0);
        yardFault("yard 1;cracked 0 0", 15, 1);
        yardFault("yard 1;conker 1 1 0;cracked 0 1", 30, 1);
        yardFault("yard 1;conker 30 1 0;cracked 0 30", 31, 1);
        yardFault("yard 1;conker 30 1 0;cracked 1 0;conker 1 1 1", 29, 1);
        yardFault("yard 1;conker 9 1 0;cracked 0 9", 30, 1);
        yardFault("yard 1;conker 9 1 0;cracked 0", 29, 0);
        yardFault("yard 1\u0000", 6, 0);
        yardFault("yard\t1", 4, 0);
        yardFault("yard 1\u00ff", 6, 0);
        yardFault("\u00e9", 0, 0);
    }

    /** Texts of 400 bytes, each of which counts. */
    private static void longTexts() {
        Due.due("blanks to the end", Due.yard(new ConkerYard(), "yard 1" + times(" ", 394)), 0);
        yardFault(times(" ", 400), 400, 0);
        yardFault(times(" ", 399) + "x", 399, 0);
        yardFault("yard 1" + times(" ", 393) + ";", 400, 0);
        yardFault("yard" + times(" ", 395) + "0", 399, 1);
        yardFault(times(";", 400), 0, 0);
        ruleFault(times(" ", 400), 400, 0);
        ruleFault("hit 1" + times(" ", 394) + "[", 399, 0);
        Due.due("a number at the end", Due.rule(new ConkerYard(), "hit" + times(" ", 396) + "7"), 0);
    }

    private static void rules() {
        ConkerYard x = new ConkerYard();
        String[] fine = {
            "hit 1", "hit1", " hit  99999 ", "hit 5if 1<2", "hit 1 if[not[1=1]]or not not 2>=3and 3<=4",
            "hit striker+struck+hard+swing+cracks+score+armour+blow+gaps+worth+whole+strikes+round;hit 0*0/0%0-0"};
        for (int i = 0; i < fine.length; i++) {
            Due.due("rule of '" + fine[i] + "'", Due.rule(x, fine[i]), i);
            Due.due("tape is empty", x.count(11), 0);
            Due.due("count(2)", x.count(2), i + 1);
        }
        Due.due("a seventh", Due.rule(x, "hit 1"), -1);
        Due.due("nothing happens", x.count(11), 5);
        Due.due("a seventh with a fault", Due.rule(x, "hit"), -1);
        Due.due("nothing happens", x.count(11), 3);
        Due.due("count(2)", x.count(2), 6);
    }

    private static void ruleFault(String text, int place, int kind) {
        ConkerYard x = new ConkerYard();
        Due.due("rule of '" + text + "'", Due.rule(x, text), Due.fault(place, kind));
        Due.due("the tape is empty behind rule '" + text + "'", x.count(11), 0);
        Due.due("no rule", x.count(2), 0);
        Due.due("none to force", x.force(0), -2);
        Due.due("a yard fed behind '" + text + "'", fedYard(x), 0);
    }

    /** "yard 3" fed behind what the tape has, which should be nothing. */
    private static int fedYard(ConkerYard x) {
        int many = x.feed(0x79617264, 0x20332020, 0x20202020, 0x20202020, 0x20202020);
        return many == 20 ? x.yard() : many;
    }

    private static void ruleFaults() {
        ruleFault("hit", 3, 0);
        ruleFault("hits 1", 0, 0);
        ruleFault("hitz 1", 0, 0);
        ruleFault("hita 1", 0, 0);
        ruleFault("hit 1 if", 8, 0);
        ruleFault("hit x", 4, 0);
        ruleFault("hit 1;", 6, 0);
        ruleFault("hit 1;yard 1", 6, 0);
        ruleFault("hit 1 if blow = 1]", 17, 0);
        ruleFault("hit 5 %", 7, 0);
        ruleFault("hit 5 % ;", 8, 0);
        ruleFault("hit -5", 4, 0);
        ruleFault("hit 5 5", 6, 0);
        ruleFault("hit hard swing", 9, 0);
        ruleFault("hit hit", 4, 0);
        ruleFault("hit if", 4, 0);
        ruleFault("hit yard", 4, 0);
        ruleFault("hit conker", 4, 0);
        ruleFault("hit cracked", 4, 0);
        ruleFault("hit and", 4, 0);
        ruleFault("hit 1 or 2", 6, 0);
        ruleFault("hit 1 iff 1=1", 6, 0);
        ruleFault("hit 1 if 1", 10, 0);
        ruleFault("hit 1 if 1 ; hit 2", 11, 0);
        ruleFault("hit 1 if 1 < = 2", 13, 0);
        ruleFault("hit 1 if 1 => 2", 12, 0);
        ruleFault("hit 1 if 1 =< 2", 12, 0);
        ruleFault("hit 1 if 1 == 2", 12, 0);
        ruleFault("hit 1 if 1 < 2 < 3", 15, 0);
        ruleFault("hit 1 if [ 1 < 2", 16, 0);
        ruleFault("hit 1 if [ 1 < 2 ; hit 2", 17, 0);
        ruleFault("hit 1 if [ 1 ] < 2", 13, 0);
        ruleFault("hit 1 if [ 1 < 2 ] + 3", 19, 0);
        ruleFault("hit 1 if 1 < 2 and", 18, 0);
        ruleFault("hit 1 if 1 < 2 or or", 18, 0);
        ruleFault("hit 1 if 1 < 2 not 1 < 2", 15, 0);
        ruleFault("hit 1 if not", 12, 0);
        ruleFault("hit 1 if 1 + not 1 < 2", 13, 0);
        ruleFault("hit [1]", 4, 0);
        ruleFault("hit hardest", 4, 0);
        ruleFault("hit Hard", 4, 0);
        ruleFault("hit 100000", 4, 1);
        ruleFault(LONG_DIGITS, 4, 1);
        ruleFault("hit 1 if 1 < 123456 + x", 13, 1);
        ruleFault("hit 1 if 1 & 2", 11, 0);
        ruleFault("hit 1 if 1 < 2 if 1 < 2", 15, 0);
    }

    private static String times(String text, int many) {
        return text.repeat(many);
    }

    private static void depth() {
        ConkerYard x = new ConkerYard();
        Due.due("ten nots", Due.rule(x, "hit 1 if " + times("not ", 10) + "1=1"), 0);
        Due.due("ten brackets", Due.rule(x, "hit 1 if " + times("[", 10) + "1=1" + times("]", 10)), 1);
        Due.due("five of both", Due.rule(x, "hit 1 if " + times("not[", 5) + "1=1" + times("]", 5)), 2);
        Due.due("ten, twice", Due.rule(x, "hit 1 if " + times("not ", 10) + "1=1 and " + times("[", 10) + "1=1"
            + times("]", 10) + " or not [ 1 = 1 ]"), 3);
        ruleFault("hit 1 if " + times("not ", 11) + "1=1", 9 + 40, 2);
        ruleFault("hit 1 if " + times("[", 11) + "1=1", 9 + 10, 2);
        ruleFault("hit 1 if " + times("not[", 5) + " not 1=1", 9 + 21, 2);
        ruleFault("hit 1 if " + times("not[", 5) + " [1=1", 9 + 21, 2);
        ruleFault("hit 1 if " + times("[", 10) + "notx", 9 + 10, 0);
        ruleFault("hit 1 if [1=1] and " + times("[", 10) + "1=1 and not 1=1", 19 + 10 + 8, 2);
    }

    private static void parts() {
        ConkerYard x = new ConkerYard();
        String sixty = "hit 1" + times("+1", 59);
        Due.due("sixty values", Due.rule(x, sixty), 0);
        ruleFault(sixty + " + 1", sixty.length() + 3, 3);
        ruleFault(sixty + " + x", sixty.length() + 3, 0);
        ruleFault(sixty + " + 100000", sixty.length() + 3, 1);
        ruleFault(sixty + " + ", sixty.length() + 3, 0);
        ruleFault(sixty + ";hit hard", sixty.length() + 5, 3);
        String facts = "hit 1 if 1=1" + times(" or 1=1", 18);
        // 1 + 19 * 3 = 58
        Due.due("58", Due.rule(x, facts), 1);
        Due.due("60", Due.rule(x, facts + ";hit 1+1"), 2);
        ruleFault(facts + " or 1+1 = 1", facts.length() + 8, 3);
        ruleFault(facts + " or 1 = 1", facts.length() + 8, 3);
        ruleFault(facts + " or 1+1 ; 1", facts.length() + 8, 0);
        ruleFault(facts + " or not 1+1<=1", facts.length() + 11, 3);
        ruleFault(facts + " or 1+1+1 = 1", facts.length() + 8, 3);
    }

    private static void clauses() {
        ConkerYard x = new ConkerYard();
        String twelve = "hit 1" + times(";hit 1", 11);
        Due.due("twelve", Due.rule(x, twelve), 0);
        ruleFault(twelve + "; hit 1", twelve.length() + 2, 4);
        ruleFault(twelve + "; hit x", twelve.length() + 2, 4);
        ruleFault(twelve + "; hitt", twelve.length() + 2, 0);
        ruleFault(twelve + ";", twelve.length() + 1, 0);
    }

    private static void force() {
        ConkerYard x = new ConkerYard();
        Due.due("none in force", x.count(3), -1);
        Due.due("force(NONE)", x.force(-1), -1);
        Due.due("force(0)", x.force(0), -2);
        Due.rule(x, "hit 1");
        Due.rule(x, "hit 2");
        Due.due("force(2)", x.force(2), -2);
        Due.due("force(-2)", x.force(-2), -2);
        Due.due("force(1)", x.force(1), -1);
        Due.due("force(0)", x.force(0), 1);
        Due.due("force(6)", x.force(6), -2);
        Due.due("in force", x.count(3), 0);
        Due.yard(x, "yard 1");
        Due.due("stays with a new yard", x.count(3), 0);
        Due.due("force(NONE)", x.force(-1), 0);
        Due.due("none in force", x.count(3), -1);
    }
}
