/** Promises 4 and 5: all short rows of words and signs, behind texts near a bound, read by the class and by the oracle. */
public final class TokensTest {
    private static final String[] YARD = {"yard", "conker", "cracked", ";", "0", "1", "9", "30", "123456", "x", "yards",
        "<"};
    private static final String[] RULE = {"hit", "if", "not", "and", "or", "[", "]", "+", "/", "<", "<=", "=", ";", "1",
        "123456", "hard", "x"};
    /** An object is used for 512 calls; a text takes 22 at most. */
    private static final int TEXTS = 23;

    private static ConkerYard yard = new ConkerYard();
    private static int texts = 0;

    private TokensTest() { }

    public static void main(String[] args) {
        int most = args.length > 0 ? Integer.parseInt(args[0]) : 3;
        rows(YARD, "", " ", most + 1);
        rows(YARD, "yard 1;conker 5 2 0;", " ", most);
        rows(YARD, "yard 9;conker 30 20 20", " ", most);
        rows(YARD, "yard 3;conker 2 2 2;cracked 0 1", " ", most);
        for (int conkers = 6; conkers <= 9; conkers++) {
            rows(YARD, "yard 1" + ";conker 3 1 0".repeat(conkers), " ", most);
        }
        rows(RULE, "", "", most);
        rows(RULE, "hit 1", " ", most + 1);
        rows(RULE, "hit 1 if 1<1", " ", most);
        rows(RULE, "hit 1 if [ not 1 >= hard", " ", most);
        for (int deep = 9; deep <= 11; deep++) {
            rows(RULE, "hit 1 if " + "[".repeat(deep), " ", most);
            rows(RULE, "hit 1 if " + "not ".repeat(deep), " ", most);
            rows(RULE, "hit 1 if " + "not [".repeat(deep / 2) + "[".repeat(deep % 2), " ", most);
        }
        for (int parts = 57; parts <= 60; parts++) {
            rows(RULE, "hit 1" + "+1".repeat(parts - 1), " ", most);
            rows(RULE, "hit 1 if 1=1" + " or 1=1".repeat((parts - 4) / 3) + "*1".repeat((parts - 4) % 3), " ", most);
        }
        for (int clauses = 10; clauses <= 12; clauses++) {
            rows(RULE, "hit 1" + ";hit 1 if hard>0".repeat(clauses - 1), " ", most);
        }
        Due.close("TokensTest");
    }

    private static void rows(String[] tokens, String text, String between, int more) {
        read(tokens == YARD, text);
        for (int i = 0; i < tokens.length && more > 0; i++) {
            rows(tokens, text.isEmpty() ? tokens[i] : text + between + tokens[i], between, more - 1);
        }
    }

    private static void read(boolean isYard, String text) {
        if (texts % TEXTS == 0) {
            yard = new ConkerYard();
        }
        texts++;
        Oracle oracle = new Oracle();
        oracle.tape = Due.bytes(text);
        if (isYard) {
            Due.due("yard() of '" + text + "'", Due.yard(yard, text), oracle.yard());
            return;
        }
        // six rules are all that an object has, so a number tells no more than that it is one
        int got = Due.rule(yard, text);
        if (got >= 0) {
            texts = 0;
        }
        Due.due("rule() of '" + text + "'", Math.min(got, 0), Math.min(oracle.rule(), 0));
    }
}
