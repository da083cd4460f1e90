import java.math.BigInteger;
import java.util.ArrayDeque;
import java.util.ArrayList;
import java.util.Arrays;
import java.util.HashMap;
import java.util.List;
import java.util.Map;
import java.util.TreeSet;

/**
 * The document read a second time, in the most roundabout and least clever way: sets of numbers,
 * trees of functions, searches through all orders. The differential test asks both the same.
 */
final class Oracle {
    static final class Fault extends RuntimeException {
        private static final long serialVersionUID = 1;
        final int number;

        Fault(int place, int kind) {
            super(null, null, false, false);
            number = 1 + 8 * place + kind;
        }
    }

    static final class Conker {
        int hard;
        int swing;
        int cracks;
        int score;
        boolean whole = true;

        Conker copy() {
            Conker c = new Conker();
            c.hard = hard;
            c.swing = swing;
            c.cracks = cracks;
            c.score = score;
            c.whole = whole;
            return c;
        }
    }

    static final class State {
        List<Conker> conkers = new ArrayList<>();
        int strikes;
        int round;

        State copy() {
            State s = new State();
            for (Conker c : conkers) {
                s.conkers.add(c.copy());
            }
            s.strikes = strikes;
            s.round = round;
            return s;
        }

        TreeSet<Integer> whole() {
            TreeSet<Integer> set = new TreeSet<>();
            for (int i = 0; i < conkers.size(); i++) {
                if (conkers.get(i).whole) {
                    set.add(i);
                }
            }
            return set;
        }

        boolean has(int i) {
            return i >= 0 && i < conkers.size();
        }

        boolean isWhole(int i) {
            return has(i) && conkers.get(i).whole;
        }
    }

    interface Sum {
        BigInteger of(State s, int striker, int struck);
    }

    interface Test {
        boolean of(State s, int striker, int struck);
    }

    record Clause(Sum sum, Test test) { }

    record Note(int n, int conker, boolean whole) { }

    record Image(boolean there, State told, State now, List<Note> notes, int force, long x) { }

    static BigInteger wrap(BigInteger v) {
        return BigInteger.valueOf(v.longValue());
    }

    // ---- reading

    static final class Text {
        final byte[] bytes;
        int at = 0;
        int parts = 0;

        Text(byte[] bytes) {
            this.bytes = bytes;
        }

        int peek() {
            while (at < bytes.length && bytes[at] == 32) {
                at++;
            }
            return at < bytes.length ? bytes[at] & 255 : -1;
        }

        String wordHere() {
            peek();
            int to = at;
            while (to < bytes.length && bytes[to] >= 'a' && bytes[to] <= 'z') {
                to++;
            }
            return new String(bytes, at, to - at, java.nio.charset.StandardCharsets.ISO_8859_1);
        }

        boolean word(String word) {
            if (wordHere().equals(word)) {
                at += word.length();
                return true;
            }
            return false;
        }

        boolean sign(String sign) {
            peek();
            for (int i = 0; i < sign.length(); i++) {
                if (at + i >= bytes.length || bytes[at + i] != sign.charAt(i)) {
                    return false;
                }
            }
            at += sign.length();
            return true;
        }

        int number(int least, int most) {
            peek();
            int from = at;
            StringBuilder digits = new StringBuilder();
            while (at < bytes.length && bytes[at] >= '0' && bytes[at] <= '9') {
                digits.append((char) bytes[at++]);
            }
            if (digits.length() == 0) {
                throw new Fault(from, 0);
            }
            if (digits.length() > 5) {
                throw new Fault(from, 1);
            }
            int value = Integer.parseInt(digits.toString());
            if (value < least || value > most) {
                throw new Fault(from, 1);
            }
            return value;
        }

        Fault here(int kind) {
            peek();
            return new Fault(at, kind);
        }

        boolean more() {
            if (peek() == -1) {
                return false;
            }
            if (sign(";")) {
                return true;
            }
            throw here(0);
        }

        // rules

        Sum value() {
            peek();
            int from = at;
            Sum sum;
            if (peek() >= '0' && peek() <= '9') {
                BigInteger n = BigInteger.valueOf(number(0, 99999));
                sum = (s, a, b) -> n;
            } else {
                String word = wordHere();
                sum = switch (word) {
                    case "striker" -> (s, a, b) -> BigInteger.valueOf(a);
                    case "struck" -> (s, a, b) -> BigInteger.valueOf(b);
                    case "hard" -> (s, a, b) -> BigInteger.valueOf(s.conkers.get(a).hard);
                    case "swing" -> (s, a, b) -> BigInteger.valueOf(s.conkers.get(a).swing);
                    case "cracks" -> (s, a, b) -> BigInteger.valueOf(s.conkers.get(a).cracks);
                    case "score" -> (s, a, b) -> BigInteger.valueOf(s.conkers.get(a).score);
                    case "armour" -> (s, a, b) -> BigInteger.valueOf(s.conkers.get(b).hard);
                    case "blow" -> (s, a, b) -> BigInteger.valueOf(s.conkers.get(b).swing);
                    case "gaps" -> (s, a, b) -> BigInteger.valueOf(s.conkers.get(b).cracks);
                    case "worth" -> (s, a, b) -> BigInteger.valueOf(s.conkers.get(b).score);
                    case "whole" -> (s, a, b) -> BigInteger.valueOf(s.whole().size());
                    case "strikes" -> (s, a, b) -> BigInteger.valueOf(s.strikes);
                    case "round" -> (s, a, b) -> BigInteger.valueOf(s.round);
                    default -> throw new Fault(from, 0);
                };
                at += word.length();
            }
            if (++parts > 60) {
                throw new Fault(from, 3);
            }
            return sum;
        }

        Sum term() {
            Sum left = value();
            while (true) {
                Sum l = left;
                if (sign("*")) {
                    Sum r = value();
                    left = (s, a, b) -> wrap(l.of(s, a, b).multiply(r.of(s, a, b)));
                } else if (sign("/")) {
                    Sum r = value();
                    left = (s, a, b) -> {
                        BigInteger by = r.of(s, a, b);
                        return by.signum() == 0 ? by : wrap(l.of(s, a, b).divide(by));
                    };
                } else if (sign("%")) {
                    Sum r = value();
                    left = (s, a, b) -> {
                        BigInteger by = r.of(s, a, b);
                        return by.signum() == 0 ? by : wrap(l.of(s, a, b).remainder(by));
                    };
                } else {
                    return left;
                }
            }
        }

        Sum sum() {
            Sum left = term();
            while (true) {
                Sum l = left;
                if (sign("+")) {
                    Sum r = term();
                    left = (s, a, b) -> wrap(l.of(s, a, b).add(r.of(s, a, b)));
                } else if (sign("-")) {
                    Sum r = term();
                    left = (s, a, b) -> wrap(l.of(s, a, b).subtract(r.of(s, a, b)));
                } else {
                    return left;
                }
            }
        }

        Test fact(int open) {
            peek();
            int from = at;
            if (wordHere().equals("not")) {
                if (open == 10) {
                    throw new Fault(from, 2);
                }
                word("not");
                Test f = fact(open + 1);
                return (s, a, b) -> !f.of(s, a, b);
            }
            if (peek() == '[') {
                if (open == 10) {
                    throw new Fault(from, 2);
                }
                sign("[");
                Test t = test(open + 1);
                if (!sign("]")) {
                    throw here(0);
                }
                return t;
            }
            Sum l = sum();
            peek();
            int signAt = at;
            int kind;
            if (sign("<=")) {
                kind = 1;
            } else if (sign(">=")) {
                kind = 3;
            } else if (sign("<")) {
                kind = 0;
            } else if (sign("=")) {
                kind = 2;
            } else if (sign(">")) {
                kind = 4;
            } else {
                throw here(0);
            }
            if (++parts > 60) {
                throw new Fault(signAt, 3);
            }
            Sum r = sum();
            return (s, a, b) -> {
                int c = l.of(s, a, b).compareTo(r.of(s, a, b));
                return switch (kind) {
                    case 0 -> c < 0;
                    case 1 -> c <= 0;
                    case 2 -> c == 0;
                    case 3 -> c >= 0;
                    default -> c > 0;
                };
            };
        }

        Test part(int open) {
            List<Test> facts = new ArrayList<>();
            do {
                facts.add(fact(open));
            } while (word("and"));
            return (s, a, b) -> facts.stream().allMatch(f -> f.of(s, a, b));
        }

        Test test(int open) {
            List<Test> list = new ArrayList<>();
            do {
                list.add(part(open));
            } while (word("or"));
            return (s, a, b) -> list.stream().anyMatch(f -> f.of(s, a, b));
        }

        List<Clause> rule() {
            List<Clause> clauses = new ArrayList<>();
            do {
                if (!wordHere().equals("hit")) {
                    throw here(0);
                }
                if (clauses.size() == 12) {
                    throw here(4);
                }
                word("hit");
                Sum sum = sum();
                Test test = word("if") ? test(0) : null;
                clauses.add(new Clause(sum, test));
            } while (more());
            return clauses;
        }

        State yard() {
            State s = new State();
            int clauses = 0;
            do {
                String word = wordHere();
                if (!List.of("yard", "conker", "cracked").contains(word)) {
                    throw here(0);
                }
                boolean ninth = word.equals("conker") && s.conkers.size() == 8;
                if (clauses == 40 || (clauses == 0) != word.equals("yard") || ninth) {
                    throw here(4);
                }
                clauses++;
                word(word);
                if (word.equals("yard")) {
                    s.strikes = number(1, 9);
                } else if (word.equals("conker")) {
                    Conker c = new Conker();
                    c.hard = number(1, 30);
                    c.swing = number(1, 20);
                    c.score = number(0, 20);
                    s.conkers.add(c);
                } else {
                    Conker c = s.conkers.get(number(0, s.conkers.size() - 1));
                    c.cracks = number(0, Math.min(29, c.hard - 1));
                }
            } while (more());
            return s;
        }
    }

    // ---- what happens

    /** Strikes one by one; answers who is smashed, or -2, and how many strikes. */
    static int[] fight(State s, int one, int other) {
        int strikes = 0;
        for (int turn = 0; turn < s.strikes; turn++) {
            int[][] both = {{one, other}, {other, one}};
            for (int[] pair : both) {
                Conker striker = s.conkers.get(pair[0]);
                Conker struck = s.conkers.get(pair[1]);
                strikes++;
                struck.cracks += striker.swing;
                if (struck.cracks >= struck.hard) {
                    struck.whole = false;
                    struck.cracks = struck.hard;
                    striker.score = Math.min(999, striker.score + struck.score + 1);
                    struck.score = 0;
                    return new int[] {pair[1], strikes};
                }
            }
        }
        return new int[] {-2, strikes};
    }

    static BigInteger weigh(List<Clause> rule, State s, int a, int b) {
        for (Clause c : rule) {
            if (c.test() == null || c.test().of(s, a, b)) {
                return c.sum().of(s, a, b);
            }
        }
        return BigInteger.ZERO;
    }

    static int round(State s, List<Clause> rule) {
        int striker = -2;
        int struck = -2;
        List<Integer> whole = new ArrayList<>(s.whole());
        if (rule == null) {
            if (whole.size() >= 2) {
                striker = whole.get(0);
                struck = whole.get(1);
            }
        } else {
            BigInteger most = BigInteger.ZERO;
            for (int a : whole) {
                for (int b : whole) {
                    if (a != b && weigh(rule, s, a, b).compareTo(most) > 0) {
                        most = weigh(rule, s, a, b);
                        striker = a;
                        struck = b;
                    }
                }
            }
        }
        if (striker >= 0) {
            fight(s, striker, struck);
        }
        for (int i = 0; i < s.conkers.size(); i++) {
            Conker c = s.conkers.get(i);
            if (c.whole && i != striker && i != struck) {
                c.cracks = Math.max(0, c.cracks - 1);
            }
        }
        s.round++;
        return striker;
    }

    byte[] tape = new byte[0];
    boolean there = false;
    State told = new State();
    State now = new State();
    List<List<Clause>> rules = new ArrayList<>();
    int force = -1;
    List<Note> notes = new ArrayList<>();
    ArrayDeque<State> acts = new ArrayDeque<>();
    long x = 0;
    Map<Integer, Image> images = new HashMap<>();

    List<Clause> inForce() {
        return force < 0 ? null : rules.get(force);
    }

    int feed(int... five) {
        if (tape.length + 20 > 400) {
            return -1;
        }
        byte[] more = Arrays.copyOf(tape, tape.length + 20);
        for (int i = 0; i < 20; i++) {
            more[tape.length + i] = (byte) (five[i / 4] >>> 24 - 8 * (i % 4));
        }
        tape = more;
        return tape.length;
    }

    int end(int n) {
        if (n < 0 || n > tape.length) {
            return -1;
        }
        tape = Arrays.copyOf(tape, n);
        return n;
    }

    int yard() {
        try {
            State s = new Text(tape).yard();
            told = s;
            now = s.copy();
            there = true;
            notes.clear();
            acts.clear();
            return s.conkers.size();
        } catch (Fault f) {
            return -2 - f.number;
        } finally {
            tape = new byte[0];
        }
    }

    int rule() {
        if (rules.size() == 6) {
            return -1;
        }
        try {
            rules.add(new Text(tape).rule());
            return rules.size() - 1;
        } catch (Fault f) {
            return -2 - f.number;
        } finally {
            tape = new byte[0];
        }
    }

    int force(int rule) {
        if (rule < -1 || rule >= rules.size()) {
            return -2;
        }
        int was = force;
        force = rule;
        return was;
    }

    int conker(int c, int what) {
        if (!now.has(c) || what < 0 || what > 4) {
            return -1;
        }
        Conker k = now.conkers.get(c);
        return new int[] {k.hard, k.swing, k.cracks, k.score, k.whole ? 1 : 0}[what];
    }

    void act() {
        acts.addLast(now.copy());
        if (acts.size() > 20) {
            acts.removeFirst();
        }
    }

    int round() {
        if (!there || now.round == 999) {
            return -1;
        }
        act();
        return round(now, inForce());
    }

    boolean two(int a, int b) {
        return a != b && now.isWhole(a) && now.isWhole(b);
    }

    int bout(int a, int b) {
        if (!two(a, b)) {
            return -1;
        }
        act();
        return fight(now, a, b)[0];
    }

    int pickle(int c, int much) {
        if (!now.isWhole(c) || much < 1 || much > 9) {
            return -1;
        }
        act();
        Conker k = now.conkers.get(c);
        k.hard = Math.min(60, k.hard + much);
        return k.hard;
    }

    int mend(int c) {
        if (!now.isWhole(c) || now.conkers.get(c).cracks == 0) {
            return -1;
        }
        act();
        int had = now.conkers.get(c).cracks;
        now.conkers.get(c).cracks = 0;
        return had;
    }

    int string(int c, int swing) {
        if (!now.isWhole(c) || swing < 1 || swing > 20 || now.conkers.get(c).swing == swing) {
            return -1;
        }
        act();
        int had = now.conkers.get(c).swing;
        now.conkers.get(c).swing = swing;
        return had;
    }

    int undo() {
        if (acts.isEmpty()) {
            return -1;
        }
        now = acts.removeLast();
        return acts.size();
    }

    int would(int a, int b, int what) {
        if (!two(a, b) || what < 0 || what > 1) {
            return -1;
        }
        int[] end = fight(now.copy(), a, b);
        if (what == 1) {
            return end[1];
        }
        return end[0] == -2 ? -2 : end[0] == a ? b : a;
    }

    boolean smashes(int a, int b) {
        return would(a, b, 0) == a;
    }

    int beats(int a) {
        if (!now.isWhole(a)) {
            return -1;
        }
        int bits = 0;
        for (int b : now.whole()) {
            if (b != a && smashes(a, b)) {
                bits |= 1 << b;
            }
        }
        return bits;
    }

    /** All orders of going out, by the cheapest way to each set. */
    int own(int c) {
        if (!now.isWhole(c)) {
            return -1;
        }
        Map<TreeSet<Integer>, Integer> cost = new HashMap<>();
        cost.put(now.whole(), 0);
        for (int size = now.whole().size(); size > 1; size--) {
            Map<TreeSet<Integer>, Integer> next = new HashMap<>();
            for (Map.Entry<TreeSet<Integer>, Integer> e : cost.entrySet()) {
                for (int a : e.getKey()) {
                    for (int b : e.getKey()) {
                        if (a != b && smashes(a, b)) {
                            TreeSet<Integer> left = new TreeSet<>(e.getKey());
                            left.remove(b);
                            int price = e.getValue() + (a == c || b == c ? 1 : 0);
                            next.merge(left, price, Math::min);
                        }
                    }
                }
            }
            cost = next;
        }
        return cost.getOrDefault(new TreeSet<>(List.of(c)), -2);
    }

    int last(int c) {
        int own = own(c);
        return own == -1 ? -1 : own == -2 ? 0 : 1;
    }

    private void orders(List<Integer> row, TreeSet<Integer> left, int[] won) {
        if (left.isEmpty()) {
            List<Integer> in = row;
            while (in.size() > 1) {
                List<Integer> on = new ArrayList<>();
                for (int i = 0; i < in.size(); i += 2) {
                    int a = Math.min(in.get(i), in.get(i + 1));
                    int b = Math.max(in.get(i), in.get(i + 1));
                    on.add(cupWinner[a][b]);
                }
                in = on;
            }
            won[in.get(0)]++;
            won[8]++;
            return;
        }
        for (int c : new TreeSet<>(left)) {
            left.remove(c);
            row.add(c);
            orders(row, left, won);
            row.remove(row.size() - 1);
            left.add(c);
        }
    }

    private final int[][] cupWinner = new int[8][8];

    int cups(int what) {
        TreeSet<Integer> whole = now.whole();
        int many = whole.size();
        if (!there || what < -1 || what > 7 || many != 2 && many != 4 && many != 8) {
            return -3;
        }
        if (what >= now.conkers.size()) {
            return -2;
        }
        for (int a : whole) {
            for (int b : whole) {
                if (a < b) {
                    cupWinner[a][b] = would(a, b, 0) == b ? b : a;
                }
            }
        }
        int[] won = new int[9];
        orders(new ArrayList<>(), whole, won);
        int alike = 1 << many - 1;
        return won[what == -1 ? 8 : what] / alike;
    }

    private List<Integer> longest;

    private void climb(List<Integer> row, boolean[][] smashes) {
        if (row.size() > longest.size()) {
            longest = new ArrayList<>(row);
        }
        for (int c : now.whole()) {
            if (!row.contains(c) && (row.isEmpty() || smashes[row.get(row.size() - 1)][c])) {
                row.add(c);
                climb(row, smashes);
                row.remove(row.size() - 1);
            }
        }
    }

    boolean[][] table() {
        boolean[][] table = new boolean[8][8];
        for (int a : now.whole()) {
            for (int b : now.whole()) {
                table[a][b] = a != b && smashes(a, b);
            }
        }
        return table;
    }

    int ladder(int what) {
        if (!there || what < -1 || what > 7) {
            return -3;
        }
        longest = new ArrayList<>();
        climb(new ArrayList<>(), table());
        if (what == -1) {
            return longest.size();
        }
        return what < longest.size() ? longest.get(what) : -1;
    }

    int rings() {
        if (!there) {
            return -1;
        }
        boolean[][] t = table();
        int bits = 0;
        for (int c : now.whole()) {
            TreeSet<Integer> seen = new TreeSet<>();
            ArrayDeque<Integer> go = new ArrayDeque<>();
            go.add(c);
            while (!go.isEmpty()) {
                int a = go.remove();
                for (int b = 0; b < 8; b++) {
                    if (t[a][b] && seen.add(b)) {
                        go.add(b);
                    }
                }
            }
            bits |= seen.contains(c) ? 1 << c : 0;
        }
        return bits;
    }

    int kings() {
        if (!there) {
            return -1;
        }
        boolean[][] t = table();
        int bits = 0;
        for (int a : now.whole()) {
            boolean king = true;
            for (int b : now.whole()) {
                boolean near = a == b || t[a][b];
                for (int c : now.whole()) {
                    near |= t[a][c] && t[c][b];
                }
                king &= near;
            }
            bits |= king ? 1 << a : 0;
        }
        return bits;
    }

    State after(State from, List<Clause> rule, int n) {
        State s = from.copy();
        for (int i = 0; i < n; i++) {
            round(s, rule);
        }
        return s;
    }

    static int bits(State s) {
        int bits = 0;
        for (int c : s.whole()) {
            bits |= 1 << c;
        }
        return bits;
    }

    int ahead(int c, int n, int what) {
        if (!there || n < 0 || n > 100 || what < 0 || what > 2 || what > 0 && !now.has(c)) {
            return -1;
        }
        State s = after(now, inForce(), n);
        return what == 0 ? bits(s) : what == 1 ? s.conkers.get(c).score : s.conkers.get(c).cracks;
    }

    int smashed(int c) {
        if (!now.isWhole(c)) {
            return -1;
        }
        State s = now.copy();
        for (int i = now.round; i < now.round + 200; i++) {
            round(s, inForce());
            if (!s.conkers.get(c).whole) {
                return i;
            }
        }
        return -2;
    }

    int alone() {
        if (!there) {
            return -1;
        }
        State s = now.copy();
        for (int i = now.round; i < now.round + 200; i++) {
            round(s, inForce());
            if (s.whole().size() < 2) {
                return i;
            }
        }
        return -2;
    }

    int best(int n, int what) {
        if (!there || n < 1 || n > 40 || what < 0 || what > 1) {
            return -2;
        }
        int which = -1;
        int most = after(now, inForce(), n).whole().size();
        for (int c : now.whole()) {
            State s = now.copy();
            s.conkers.get(c).hard = Math.min(60, s.conkers.get(c).hard + 5);
            int many = after(s, inForce(), n).whole().size();
            if (many > most) {
                most = many;
                which = c;
            }
        }
        return what == 0 ? which : most;
    }

    /** Behind the n-th ROUND of all, of which the first is the 0-th: until ROUND is past n. */
    State behind(State begin, List<Clause> rule, int n) {
        State s = begin.copy();
        while (s.round <= n) {
            round(s, rule);
        }
        return s;
    }

    boolean allSo(State begin, List<Clause> rule) {
        for (Note note : notes) {
            if (behind(begin, rule, note.n()).isWhole(note.conker()) != note.whole()) {
                return false;
            }
        }
        return true;
    }

    int hards(int c, int what) {
        if (!told.has(c) || what < 0 || what > 1) {
            return -1;
        }
        TreeSet<Integer> fine = new TreeSet<>();
        for (int h = 1; h <= 30; h++) {
            State s = told.copy();
            s.conkers.get(c).hard = h;
            if (h > s.conkers.get(c).cracks && allSo(s, inForce())) {
                fine.add(h);
            }
        }
        return what == 0 ? fine.size() : fine.isEmpty() ? -2 : fine.first();
    }

    int swings(int c) {
        if (!told.has(c)) {
            return -1;
        }
        int bits = 0;
        for (int w = 1; w <= 20; w++) {
            State s = told.copy();
            s.conkers.get(c).swing = w;
            bits += allSo(s, inForce()) ? 1 << w : 0;
        }
        return bits;
    }

    private int gain(int one, int other, int n, int a, int b, int whose) {
        State s = now.copy();
        s.conkers.get(one).swing = a;
        s.conkers.get(other).swing = b;
        s = after(s, inForce(), n);
        Conker c = s.conkers.get(whose);
        return c.score + (c.whole ? 10 : 0);
    }

    int rests(int one, int other, int n, int what) {
        if (!two(one, other) || n < 1 || n > 20 || what < 0 || what > 2) {
            return -1;
        }
        int many = 0;
        int[] first = null;
        for (int a = 4; a <= 16; a += 4) {
            for (int b = 4; b <= 16; b += 4) {
                boolean rest = true;
                for (int d = 4; d <= 16; d += 4) {
                    rest &= gain(one, other, n, d, b, one) <= gain(one, other, n, a, b, one);
                    rest &= gain(one, other, n, a, d, other) <= gain(one, other, n, a, b, other);
                }
                if (rest) {
                    many++;
                    first = first == null ? new int[] {a, b} : first;
                }
            }
        }
        return what == 0 ? many : first == null ? -2 : first[what - 1];
    }

    int pence(int much, int c) {
        if (much < 0 || much > 9999 || !now.has(c)) {
            return -1;
        }
        long all = 0;
        for (int k : now.whole()) {
            all += now.conkers.get(k).score;
        }
        if (all == 0 || !now.isWhole(c)) {
            return 0;
        }
        int[] part = new int[8];
        int left = much;
        List<Integer> row = new ArrayList<>();
        for (int k : now.whole()) {
            part[k] = (int) ((long) much * now.conkers.get(k).score / all);
            left -= part[k];
            row.add(k);
        }
        long sum = all;
        // List.sort is stable, so that the least stays first of several
        row.sort((p, q) -> Long.compare(
            (long) much * now.conkers.get(q).score - part[q] * sum,
            (long) much * now.conkers.get(p).score - part[p] * sum));
        for (int i = 0; i < left; i++) {
            part[row.get(i)]++;
        }
        return part[c];
    }

    int note(int n, int c, int whole) {
        if (n == -1) {
            notes.clear();
            return 0;
        }
        if (n < 0 || n > 60 || !now.has(c) || whole < 0 || whole > 1 || notes.size() == 10) {
            return -2;
        }
        notes.add(new Note(n, c, whole == 1));
        return notes.size();
    }

    List<Integer> ruled() {
        List<Integer> fine = new ArrayList<>();
        for (int r = -1; r < rules.size(); r++) {
            if (allSo(told, r < 0 ? null : rules.get(r))) {
                fine.add(r);
            }
        }
        return fine;
    }

    int ruled(int what) {
        if (!there || what < 0 || what > 1) {
            return -3;
        }
        List<Integer> fine = ruled();
        return what == 0 ? fine.size() : fine.isEmpty() ? -2 : fine.get(0);
    }

    int look(int n, int what) {
        if (!there || n < 0 || n > 60 || what < 0 || what > 1) {
            return -1;
        }
        List<Integer> fine = ruled();
        int which = -2;
        int fewest = -2;
        for (int c = 0; c < told.conkers.size() && !fine.isEmpty(); c++) {
            int whole = 0;
            int not = 0;
            for (int r : fine) {
                if (behind(told, r < 0 ? null : rules.get(r), n).isWhole(c)) {
                    whole++;
                } else {
                    not++;
                }
            }
            if (which == -2 || Math.max(whole, not) < fewest) {
                which = c;
                fewest = Math.max(whole, not);
            }
        }
        return what == 0 ? which : fewest;
    }

    int seed(int y) {
        if (y < 0) {
            return -1;
        }
        int was = (int) x;
        x = y;
        return was;
    }

    private int draw() {
        x = BigInteger.valueOf(x).multiply(BigInteger.valueOf(1103515245)).add(BigInteger.valueOf(12345))
            .mod(BigInteger.ONE.shiftLeft(31)).longValue();
        return (int) (x / 65536);
    }

    int frost(int m, int n, int p, int what) {
        if (!there || m < 1 || m > 10 || n < 1 || n > 60 || p < 0 || p > 100 || what < 0 || what > 1) {
            return -1;
        }
        long was = x;
        int[] sums = new int[2];
        for (int i = 0; i < m; i++) {
            State s = now.copy();
            for (int k = 0; k < n; k++) {
                if (draw() % 100 < p && !s.conkers.isEmpty()) {
                    Conker c = s.conkers.get(draw() % s.conkers.size());
                    if (c.whole) {
                        c.cracks = Math.min(c.hard - 1, c.cracks + 3);
                    }
                }
                round(s, inForce());
            }
            for (int c : s.whole()) {
                sums[0]++;
                sums[1] += s.conkers.get(c).cracks;
            }
        }
        x = was;
        return sums[what];
    }

    int count(int what) {
        int score = 0;
        int cracks = 0;
        for (int c : now.whole()) {
            score += now.conkers.get(c).score;
            cracks += now.conkers.get(c).cracks;
        }
        int[] all = {now.strikes, now.conkers.size(), rules.size(), force, now.round, bits(now), score, cracks,
            notes.size(), acts.size(), (int) x, tape.length};
        return what >= 0 && what < all.length ? all[what] : -1;
    }

    int image(int k) {
        if (k < 0 || k > 3) {
            return -1;
        }
        images.put(k, new Image(there, told.copy(), now.copy(), new ArrayList<>(notes), force, x));
        return now.round;
    }

    int back(int k) {
        Image i = images.get(k);
        if (i == null) {
            return -1;
        }
        there = i.there();
        told = i.told().copy();
        now = i.now().copy();
        notes = new ArrayList<>(i.notes());
        force = i.force();
        x = i.x();
        acts.clear();
        return now.round;
    }
}
