import java.util.Random;

/** All promises: runs of drawn calls, asked of the class and of the oracle alike. */
public final class OracleTest {
    private static final String[] WORDS = {"striker", "struck", "hard", "swing", "cracks", "score", "armour", "blow",
        "gaps", "worth", "whole", "strikes", "round"};
    private static final String[] SIGNS = {"<", "<=", "=", ">=", ">"};
    private static final String[] ALL = {"yard", "conker", "cracked", "hit", "if", "not", "and", "or", "[", "]", "+",
        "-", "*", "/", "%", "<", "<=", "=", ">=", ">", ";", "1", "25", "99999", "100000", "hard", "x", "hits", "\u00e9"};

    private final Random random;
    private final ConkerYard yard = new ConkerYard();
    private final Oracle oracle = new Oracle();
    private final int run;
    private int calls = 0;

    private OracleTest(int run) {
        this.run = run;
        this.random = new Random(run * 7919L + 17);
    }

    public static void main(String[] args) {
        int runs = args.length > 0 ? Integer.parseInt(args[0]) : 500;
        for (int run = 0; run < runs; run++) {
            new OracleTest(run).go();
        }
        Due.close("OracleTest");
    }

    private int upTo(int n) {
        return random.nextInt(n + 1);
    }

    private boolean chance(int percent) {
        return random.nextInt(100) < percent;
    }

    private String pick(String[] row) {
        return row[random.nextInt(row.length)];
    }

    private String blank() {
        return chance(80) ? " " : chance(50) ? "" : "  ";
    }

    private String yardText() {
        StringBuilder text = new StringBuilder("yard " + (1 + upTo(chance(60) ? 2 : 8)));
        int many = chance(30) ? 8 : chance(30) ? 4 : upTo(8);
        boolean soft = chance(50);
        for (int i = 0; i < many; i++) {
            int hard = 1 + upTo(29);
            int swing = 1 + upTo(soft ? 4 : 19);
            text.append(blank()).append(';').append(blank()).append("conker ").append(hard).append(' ').append(swing)
                .append(' ').append(upTo(chance(50) ? 3 : 20));
            if (chance(30) && hard > 1) {
                text.append(";cracked ").append(i).append(' ').append(upTo(hard - 2));
            }
        }
        return text.toString();
    }

    private String value() {
        return chance(60) ? pick(WORDS) : Integer.toString(upTo(chance(70) ? 12 : 99999));
    }

    private String sum(int most) {
        StringBuilder text = new StringBuilder(value());
        for (int i = upTo(most); i > 0; i--) {
            text.append(blank()).append("+-*/%".charAt(random.nextInt(5))).append(blank()).append(value());
        }
        return text.toString();
    }

    private String fact(int depth) {
        if (depth > 0 && chance(20)) {
            return "not " + fact(depth - 1);
        }
        if (depth > 0 && chance(20)) {
            return "[" + blank() + test(depth - 1) + blank() + "]";
        }
        return sum(2) + blank() + pick(SIGNS) + blank() + sum(1);
    }

    private String test(int depth) {
        StringBuilder text = new StringBuilder(fact(depth));
        for (int i = chance(60) ? 0 : upTo(3); i > 0; i--) {
            text.append(chance(50) ? " and " : " or ").append(fact(depth));
        }
        return text.toString();
    }

    private String ruleText() {
        StringBuilder text = new StringBuilder();
        int many = 1 + upTo(chance(70) ? 2 : 6);
        for (int i = 0; i < many; i++) {
            text.append(i == 0 ? "" : ";").append("hit ").append(sum(4));
            if (chance(70)) {
                text.append(" if ").append(test(chance(90) ? 2 : 12));
            }
        }
        return text.toString();
    }

    /** Now and then something is wrong with a text. */
    private String spoilt(String text, int percent) {
        String spoilt = text;
        while (chance(percent)) {
            int place = random.nextInt(spoilt.length() + 1);
            String head = spoilt.substring(0, place);
            String tail = spoilt.substring(place);
            switch (random.nextInt(5)) {
                case 0 -> spoilt = head;
                case 1 -> spoilt = head + pick(ALL) + tail;
                case 2 -> spoilt = head + tail.substring(Math.min(tail.length(), 1 + upTo(2)));
                case 3 -> spoilt = head + (char) upTo(255) + tail;
                default -> spoilt = head + " " + pick(ALL) + " " + tail;
            }
        }
        return spoilt.length() > 380 ? spoilt.substring(0, 380) : spoilt;
    }

    private void due(String call, int got, int want) {
        calls++;
        Due.due("run " + run + ", call " + calls + ": " + call, got, want);
    }

    private void tell(String text) {
        // a tape that should be empty by now is seen to be so when nothing empties it
        if (!chance(40)) {
            due("end(0)", yard.end(0), oracle.end(0));
        }
        byte[] bytes = Due.bytes(text);
        for (int k = 0; k * 20 < bytes.length; k++) {
            int[] five = new int[5];
            for (int i = 0; i < 5; i++) {
                five[i] = Due.number(bytes, k, i);
            }
            due("feed", yard.feed(five[0], five[1], five[2], five[3], five[4]), oracle.feed(five));
        }
        due("end(" + bytes.length + ")", yard.end(bytes.length), oracle.end(bytes.length));
    }

    private void tellYard(int spoil) {
        String text = spoilt(yardText(), spoil);
        tell(text);
        due("yard() of '" + text + "'", yard.yard(), oracle.yard());
    }

    private void tellRule(int spoil) {
        String text = spoilt(ruleText(), spoil);
        tell(text);
        due("rule() of '" + text + "'", yard.rule(), oracle.rule());
    }

    private int conker() {
        return chance(4) ? random.nextInt() : chance(5) ? upTo(11) - 2 : upTo(Math.max(0, yard.count(1) - 1));
    }

    private int number(int least, int most) {
        return chance(3) ? random.nextInt() : chance(4) ? (chance(50) ? least - 1 : most + 1) : least + upTo(most - least);
    }

    private void go() {
        if (chance(95)) {
            tellYard(run % 10 == 0 ? 50 : 3);
        }
        for (int i = upTo(4); i > 0; i--) {
            tellRule(run % 5 == 0 ? 40 : 3);
        }
        for (int i = 0; i < 60 && calls < 500; i++) {
            if (chance(45)) {
                change();
            } else {
                ask();
            }
            if (chance(10)) {
                lookAround();
            }
        }
        lookAround();
    }

    private void lookAround() {
        for (int what = -1; what <= 12; what++) {
            due("count(" + what + ")", yard.count(what), oracle.count(what));
        }
        for (int c = 0; c < yard.count(1); c++) {
            for (int what = 0; what <= 4; what++) {
                due("conker(" + c + ", " + what + ")", yard.conker(c, what), oracle.conker(c, what));
            }
        }
    }

    private void change() {
        int a = conker();
        int b = conker();
        int n;
        switch (random.nextInt(26)) {
            case 0 -> tellYard(15);
            case 1, 2 -> tellRule(15);
            case 3, 4 -> {
                n = number(-1, yard.count(2) - 1);
                due("force(" + n + ")", yard.force(n), oracle.force(n));
            }
            case 5, 6, 7, 8, 9 -> due("round()", yard.round(), oracle.round());
            case 10, 11 -> due("bout(" + a + ", " + b + ")", yard.bout(a, b), oracle.bout(a, b));
            case 12, 13 -> {
                n = number(1, 9);
                due("pickle(" + a + ", " + n + ")", yard.pickle(a, n), oracle.pickle(a, n));
            }
            case 14 -> due("mend(" + a + ")", yard.mend(a), oracle.mend(a));
            case 15, 16 -> {
                n = number(1, 20);
                due("string(" + a + ", " + n + ")", yard.string(a, n), oracle.string(a, n));
            }
            case 17, 18 -> due("undo()", yard.undo(), oracle.undo());
            case 19 -> {
                n = number(0, Integer.MAX_VALUE - 1);
                due("seed(" + n + ")", yard.seed(n), oracle.seed(n));
            }
            case 20 -> {
                n = number(0, 3);
                due("image(" + n + ")", yard.image(n), oracle.image(n));
            }
            case 21 -> {
                n = number(0, 3);
                due("back(" + n + ")", yard.back(n), oracle.back(n));
            }
            default -> {
                n = number(chance(20) ? -1 : 0, chance(80) ? 8 : 60);
                // half of the notes are as it goes, so that rules and numbers are left that fit
                int as = chance(60) && n < 100 && n >= 0 && a >= 0 && a < 8
                    ? yard.ahead(a, n + 1, 0) >> a & 1 : number(0, 1);
                if (chance(60)) {
                    due("note(" + n + ", " + a + ", " + as + ")", yard.note(n, a, as), oracle.note(n, a, as));
                }
            }
        }
    }

    private void ask() {
        int a = conker();
        int b = conker();
        int two = number(0, 1);
        int three = number(0, 2);
        int place = number(-1, 7);
        int n = number(0, chance(90) ? 15 : 100);
        switch (random.nextInt(24)) {
            case 0 -> due("would(" + a + ", " + b + ", " + two + ")", yard.would(a, b, two), oracle.would(a, b, two));
            case 1 -> due("beats(" + a + ")", yard.beats(a), oracle.beats(a));
            case 2 -> due("last(" + a + ")", yard.last(a), oracle.last(a));
            case 3, 4 -> due("own(" + a + ")", yard.own(a), oracle.own(a));
            case 5 -> due("cups(" + place + ")", yard.cups(place), oracle.cups(place));
            case 6, 7 -> due("ladder(" + place + ")", yard.ladder(place), oracle.ladder(place));
            case 8 -> due("rings()", yard.rings(), oracle.rings());
            case 9 -> due("kings()", yard.kings(), oracle.kings());
            case 10, 11 -> due("ahead(" + a + ", " + n + ", " + three + ")", yard.ahead(a, n, three),
                oracle.ahead(a, n, three));
            case 12 -> due("smashed(" + a + ")", yard.smashed(a), oracle.smashed(a));
            case 13 -> due("alone()", yard.alone(), oracle.alone());
            case 14 -> due("best(" + n + ", " + two + ")", yard.best(n, two), oracle.best(n, two));
            case 15, 16 -> due("hards(" + a + ", " + two + ")", yard.hards(a, two), oracle.hards(a, two));
            case 17 -> due("swings(" + a + ")", yard.swings(a), oracle.swings(a));
            case 18, 19 -> due("rests(" + a + ", " + b + ", " + n + ", " + three + ")", yard.rests(a, b, n, three),
                oracle.rests(a, b, n, three));
            case 20 -> {
                int much = number(0, chance(50) ? 30 : 9999);
                due("pence(" + much + ", " + a + ")", yard.pence(much, a), oracle.pence(much, a));
            }
            case 21 -> due("ruled(" + two + ")", yard.ruled(two), oracle.ruled(two));
            case 22 -> due("look(" + n + ", " + two + ")", yard.look(n, two), oracle.look(n, two));
            default -> {
                int m = number(1, 10);
                int p = number(0, 100);
                due("frost(" + m + ", " + n + ", " + p + ", " + two + ")", yard.frost(m, n, p, two),
                    oracle.frost(m, n, p, two));
            }
        }
    }
}
