/**
 * Conkers in the yard: a yard and rules told in a language, rounds and other acts by hand, and
 * what can be asked of how it is and how it goes on. The words in capitals are the document's.
 *
 * <p>Every row that a call needs is made by the constructors, so that no call makes an object.
 */
public final class ConkerYard {
    public static final int NONE = -1;

    /** The answer for "nobody", "none" or "no such" where NONE means that the question is wrong. */
    private static final int NO_ONE = -2;
    private static final int UNASKED = -3;

    private static final int CONKERS_MOST = 8;
    private static final int RULES_MOST = 6;
    private static final int IMAGES_MOST = 4;
    private static final int ACTS_MOST = 20;
    private static final int NOTES_MOST = 10;
    private static final int NOTED_ROUNDS = 60;
    private static final int TAPE_MOST = 400;
    private static final int FED = 20;

    private static final int HARD_TOLD_MOST = 30;
    private static final int HARD_MOST = 60;
    private static final int SWING_MOST = 20;
    private static final int SCORE_TOLD_MOST = 20;
    private static final int CRACKS_TOLD_MOST = 29;
    private static final int STRIKES_MOST = 9;
    private static final int SCORE_MOST = 999;
    private static final int ROUND_MOST = 999;
    private static final int ROUNDS_AHEAD = 100;
    private static final int ROUNDS_WATCHED = 200;
    private static final int PENCE_MOST = 9999;

    /** All words of both languages, each with a blank behind it; a word's number is its place here. */
    private static final String WORDS = "striker struck hard swing cracks score armour blow gaps worth whole strikes round yard conker cracked hit if not and or ";
    private static final int VALUE_WORDS = 13;

    /** Kinds of tokens: a sign of one byte is that byte, a word is its number behind TOKEN_WORD. */
    private static final int TOKEN_NONE = -1;
    private static final int TOKEN_END = 256;
    private static final int TOKEN_NUMBER = 257;
    private static final int TOKEN_AT_MOST = 258;
    private static final int TOKEN_AT_LEAST = 259;
    private static final int TOKEN_STRANGE_WORD = 260;
    private static final int TOKEN_WORD = 261;
    private static final int TOKEN_ROUND = TOKEN_WORD + 12;
    private static final int TOKEN_YARD = TOKEN_WORD + 13;
    private static final int TOKEN_CONKER = TOKEN_WORD + 14;
    private static final int TOKEN_CRACKED = TOKEN_WORD + 15;
    private static final int TOKEN_HIT = TOKEN_WORD + 16;
    private static final int TOKEN_IF = TOKEN_WORD + 17;
    private static final int TOKEN_NOT = TOKEN_WORD + 18;
    private static final int TOKEN_AND = TOKEN_WORD + 19;
    private static final int TOKEN_OR = TOKEN_WORD + 20;

    private static final int FAULT_SIGN = 0;
    private static final int FAULT_NUMBER = 1;
    private static final int FAULT_DEEP = 2;
    private static final int FAULT_MANY = 3;
    private static final int FAULT_CLAUSE = 4;

    /** The steps of a RULE; one with an operand has it above the lowest five bits. */
    private static final int STEP_BITS = 5;
    private static final int STEP_MASK = 31;
    private static final int STEP_NONE = -1;
    private static final int STEP_NUMBER = 0;
    private static final int STEP_WORD = 1;
    private static final int STEP_PLUS = 2;
    private static final int STEP_MINUS = 3;
    private static final int STEP_TIMES = 4;
    private static final int STEP_BY = 5;
    private static final int STEP_REST = 6;
    private static final int STEP_LESS = 7;
    private static final int STEP_AT_MOST = 8;
    private static final int STEP_EQUAL = 9;
    private static final int STEP_AT_LEAST = 10;
    private static final int STEP_MORE = 11;
    private static final int STEP_AND = 12;
    private static final int STEP_OR = 13;
    private static final int STEP_NOT = 14;
    private static final int STEP_HIT = 15;
    private static final int STEP_HIT_IF = 16;

    private final Tape tape = new Tape();
    private final RuleText ruleText = new RuleText();
    private final Lot fresh = new Lot();
    private final Rule[] rules = new Rule[RULES_MOST];
    private int rulesMany = 0;
    private final World world = new World();
    private final Acts acts = new Acts();
    private final World[] images = new World[IMAGES_MOST];
    private final boolean[] imageMade = new boolean[IMAGES_MOST];
    private final Course course = new Course();
    private final Pecking pecking = new Pecking();
    private final int[] tally = new int[CONKERS_MOST];

    public ConkerYard() {
        for (int i = 0; i < RULES_MOST; i++) {
            rules[i] = new Rule();
        }
        for (int i = 0; i < IMAGES_MOST; i++) {
            images[i] = new World();
        }
    }

    // ---- the TAPE, the YARD and the RULES

    public int feed(int a, int b, int c, int d, int e) {
        if (tape.length + FED > TAPE_MOST) {
            return NONE;
        }
        tape.addFour(a);
        tape.addFour(b);
        tape.addFour(c);
        tape.addFour(d);
        tape.addFour(e);
        return tape.length;
    }

    public int end(int n) {
        if (n < 0 || n > tape.length) {
            return NONE;
        }
        tape.length = n;
        return n;
    }

    public int yard() {
        YardText.readInto(tape, fresh);
        // with a FAULT the YARD stays, but what was read is off the TAPE
        tape.length = 0;
        if (tape.fault != 0) {
            return NO_ONE - tape.fault;
        }
        world.there = true;
        world.begin.become(fresh);
        world.now.become(fresh);
        world.notes.many = 0;
        acts.many = 0;
        return fresh.size;
    }

    public int rule() {
        if (rulesMany < 0 || rulesMany >= RULES_MOST || rules[rulesMany] == null) {
            return NONE;
        }
        ruleText.read(tape);
        tape.length = 0;
        if (tape.fault != 0) {
            return NO_ONE - tape.fault;
        }
        rules[rulesMany].become(ruleText.rule);
        rulesMany++;
        return rulesMany - 1;
    }

    public int force(int rule) {
        if (rule < NONE || rule >= rulesMany) {
            return NO_ONE;
        }
        int before = world.inForce;
        world.inForce = rule;
        return before;
    }

    // ---- a CONKER, and the ACTS

    public int conker(int conker, int what) {
        Lot now = world.now;
        if (!now.known(conker)) {
            return NONE;
        }
        switch (what) {
            case 0: return now.hard[conker];
            case 1: return now.swing[conker];
            case 2: return now.cracks[conker];
            case 3: return now.score[conker];
            case 4: return now.isWhole(conker) ? 1 : 0;
            default: return NONE;
        }
    }

    public int round() {
        if (!world.there || world.now.round >= ROUND_MOST) {
            return NONE;
        }
        acts.keep(world.now);
        return course.playRound(world.now, ruleInForce());
    }

    public int bout(int one, int other) {
        if (!world.now.canMeet(one, other)) {
            return NONE;
        }
        acts.keep(world.now);
        return world.now.fight(one, other);
    }

    public int pickle(int conker, int much) {
        Lot now = world.now;
        if (!now.isWhole(conker) || much < 1 || much > 9) {
            return NONE;
        }
        acts.keep(now);
        now.harden(conker, much);
        return now.hard[conker];
    }

    public int mend(int conker) {
        Lot now = world.now;
        if (!now.isWhole(conker) || now.cracks[conker] == 0) {
            return NONE;
        }
        acts.keep(now);
        int before = now.cracks[conker];
        now.cracks[conker] = 0;
        return before;
    }

    public int string(int conker, int swing) {
        Lot now = world.now;
        if (!now.isWhole(conker) || swing < 1 || swing > SWING_MOST || swing == now.swing[conker]) {
            return NONE;
        }
        acts.keep(now);
        int before = now.swing[conker];
        now.swing[conker] = swing;
        return before;
    }

    public int undo() {
        return acts.giveBack(world.now) ? acts.many : NONE;
    }

    // ---- AS IT IS

    public int would(int one, int other, int what) {
        Lot now = world.now;
        if (!now.canMeet(one, other) || what < 0 || what > 1) {
            return NONE;
        }
        return what == 0 ? now.smasher(one, other) : now.strikesOf(one, other);
    }

    public int beats(int conker) {
        return world.now.isWhole(conker) ? world.now.smashable(conker) : NONE;
    }

    public int last(int conker) {
        if (!world.now.isWhole(conker)) {
            return NONE;
        }
        pecking.see(world.now);
        return pecking.canOutlast(conker) ? 1 : 0;
    }

    public int own(int conker) {
        if (!world.now.isWhole(conker)) {
            return NONE;
        }
        pecking.see(world.now);
        return pecking.canOutlast(conker) ? pecking.fewestBouts(conker) : NO_ONE;
    }

    public int cups(int what) {
        int many = world.now.wholeMany();
        boolean even = many == 2 || many == 4 || many == 8;
        if (!world.there || !even || what < NONE || what >= CONKERS_MOST) {
            return UNASKED;
        }
        if (what != NONE && !world.now.known(what)) {
            return NO_ONE;
        }
        pecking.see(world.now);
        pecking.playCups(world.now);
        return what == NONE ? pecking.cupsMany : pecking.cupsWon[what];
    }

    public int ladder(int what) {
        if (!world.there || what < NONE || what >= CONKERS_MOST) {
            return UNASKED;
        }
        pecking.see(world.now);
        pecking.findLadder();
        if (what == NONE) {
            return pecking.rowLength;
        }
        return what < pecking.rowLength ? pecking.row[what] : NONE;
    }

    public int rings() {
        if (!world.there) {
            return NONE;
        }
        pecking.see(world.now);
        return pecking.onRings();
    }

    public int kings() {
        if (!world.there) {
            return NONE;
        }
        pecking.see(world.now);
        return pecking.withinTwo();
    }

    // ---- how it goes on

    public int ahead(int conker, int n, int what) {
        if (!world.there || n < 0 || n > ROUNDS_AHEAD || what < 0 || what > 2) {
            return NONE;
        }
        if (what != 0 && !world.now.known(conker)) {
            return NONE;
        }
        Lot trial = course.from(world.now);
        course.goOn(ruleInForce(), n);
        if (what == 0) {
            return trial.whole;
        }
        return what == 1 ? trial.score[conker] : trial.cracks[conker];
    }

    public int smashed(int conker) {
        if (!world.now.isWhole(conker)) {
            return NONE;
        }
        course.from(world.now);
        return course.smashedIn(conker, ruleInForce());
    }

    public int alone() {
        if (!world.there) {
            return NONE;
        }
        course.from(world.now);
        return course.aloneBehind(ruleInForce());
    }

    public int best(int n, int what) {
        if (!world.there || n < 1 || n > 40 || what < 0 || what > 1) {
            return NO_ONE;
        }
        int which = NONE;
        int most = course.wholeWith(world.now, NONE, ruleInForce(), n);
        for (int conker = 0; conker < CONKERS_MOST; conker++) {
            if (world.now.isWhole(conker)) {
                int many = course.wholeWith(world.now, conker, ruleInForce(), n);
                if (many > most) {
                    most = many;
                    which = conker;
                }
            }
        }
        return what == 0 ? which : most;
    }

    public int hards(int conker, int what) {
        if (!world.begin.known(conker) || what < 0 || what > 1) {
            return NONE;
        }
        int many = 0;
        int least = NO_ONE;
        for (int hard = HARD_TOLD_MOST; hard > world.begin.cracks[conker] && hard >= 1; hard--) {
            Lot trial = course.from(world.begin);
            trial.hard[conker] = hard;
            if (course.fits(ruleInForce(), world.notes)) {
                many++;
                least = hard;
            }
        }
        return what == 0 ? many : least;
    }

    public int swings(int conker) {
        if (!world.begin.known(conker)) {
            return NONE;
        }
        int bits = 0;
        for (int swing = 1; swing <= SWING_MOST; swing++) {
            Lot trial = course.from(world.begin);
            trial.swing[conker] = swing;
            if (course.fits(ruleInForce(), world.notes)) {
                bits |= 1 << swing;
            }
        }
        return bits;
    }

    public int rests(int one, int other, int n, int what) {
        if (!world.now.canMeet(one, other) || n < 1 || n > 20 || what < 0 || what > 2) {
            return NONE;
        }
        course.weighStrings(world.now, one, other, ruleInForce(), n);
        if (what == 0) {
            return course.restsMany();
        }
        int first = course.firstRest();
        if (first == NONE) {
            return NO_ONE;
        }
        return course.stringOf(what == 1 ? first / Course.STRINGS : first % Course.STRINGS);
    }

    public int pence(int much, int conker) {
        if (much < 0 || much > PENCE_MOST || !world.now.known(conker)) {
            return NONE;
        }
        return world.now.part(much, conker);
    }

    // ---- NOTES

    public int note(int n, int conker, int whole) {
        Notes notes = world.notes;
        if (n == NONE) {
            notes.many = 0;
            return 0;
        }
        boolean asTold = n >= 0 && n <= NOTED_ROUNDS && (whole == 0 || whole == 1);
        if (!asTold || !world.now.known(conker) || !notes.add(n, conker, whole)) {
            return NO_ONE;
        }
        return notes.many;
    }

    public int ruled(int what) {
        if (!world.there || what < 0 || what > 1) {
            return UNASKED;
        }
        int many = 0;
        int first = NO_ONE;
        for (int rule = rulesMany - 1; rule >= NONE; rule--) {
            course.from(world.begin);
            if (course.fits(ruleOf(rule), world.notes)) {
                many++;
                first = rule;
            }
        }
        return what == 0 ? many : first;
    }

    public int look(int n, int what) {
        if (!world.there || n < 0 || n > NOTED_ROUNDS || what < 0 || what > 1) {
            return NONE;
        }
        int many = tallyWhole(n);
        if (many == 0) {
            return NO_ONE;
        }
        int which = NO_ONE;
        int fewest = NO_ONE;
        for (int conker = 0; conker < CONKERS_MOST; conker++) {
            if (world.now.known(conker)) {
                int alike = Math.max(tally[conker], many - tally[conker]);
                if (which == NO_ONE || alike < fewest) {
                    which = conker;
                    fewest = alike;
                }
            }
        }
        return what == 0 ? which : fewest;
    }

    // ---- DRAWS, counts, IMAGES

    public int seed(int x) {
        if (x < 0) {
            return NONE;
        }
        int before = world.x;
        world.x = x;
        return before;
    }

    public int frost(int m, int n, int p, int what) {
        boolean asTold = m >= 1 && m <= 10 && n >= 1 && n <= 60 && p >= 0 && p <= 100;
        if (!world.there || !asTold || what < 0 || what > 1) {
            return NONE;
        }
        course.drawn = world.x;
        int sum = 0;
        for (int time = 0; time < m; time++) {
            Lot trial = course.from(world.now);
            course.goOnInFrost(ruleInForce(), n, p);
            sum += what == 0 ? trial.wholeMany() : trial.wholeSum(trial.cracks);
        }
        return sum;
    }

    public int count(int what) {
        Lot now = world.now;
        switch (what) {
            case 0: return now.strikes;
            case 1: return now.size;
            case 2: return rulesMany;
            case 3: return world.inForce;
            case 4: return now.round;
            case 5: return now.whole;
            case 6: return now.wholeSum(now.score);
            case 7: return now.wholeSum(now.cracks);
            case 8: return world.notes.many;
            case 9: return acts.many;
            case 10: return world.x;
            case 11: return tape.length;
            default: return NONE;
        }
    }

    public int image(int k) {
        World kept = imageOf(k);
        if (kept == null) {
            return NONE;
        }
        kept.become(world);
        imageMade[k] = true;
        return world.now.round;
    }

    public int back(int k) {
        World kept = imageOf(k);
        if (kept == null || !imageMade[k]) {
            return NONE;
        }
        world.become(kept);
        acts.many = 0;
        return world.now.round;
    }

    // ---- what several calls need

    private World imageOf(int k) {
        return k >= 0 && k < IMAGES_MOST ? images[k] : null;
    }

    private Rule ruleOf(int rule) {
        return rule >= 0 && rule < rulesMany && rule < RULES_MOST ? rules[rule] : null;
    }

    private Rule ruleInForce() {
        return ruleOf(world.inForce);
    }

    /** Of how many RULES (and none) the NOTES are so; the tally: under how many of them each is WHOLE. */
    private int tallyWhole(int n) {
        for (int conker = 0; conker < CONKERS_MOST; conker++) {
            tally[conker] = 0;
        }
        int many = 0;
        for (int rule = NONE; rule < rulesMany; rule++) {
            Lot trial = course.from(world.begin);
            if (course.fits(ruleOf(rule), world.notes)) {
                many++;
                course.from(world.begin);
                // the first ROUND is the 0-th: behind the n-th there have been n + 1
                course.goOn(ruleOf(rule), n + 1);
                for (int conker = 0; conker < CONKERS_MOST; conker++) {
                    tally[conker] += trial.isWhole(conker) ? 1 : 0;
                }
            }
        }
        return many;
    }

    /** The bytes that were fed, and the tokens that they are, with a way along these to the first FAULT. */
    private static final class Tape {
        private static final int DIGITS_MOST = 5;
        private static final int TOKENS_MOST = TAPE_MOST + 1;

        private final int[] bytes = new int[TAPE_MOST];
        int length = 0;
        private final int[] kinds = new int[TOKENS_MOST];
        private final int[] places = new int[TOKENS_MOST];
        private final int[] values = new int[TOKENS_MOST];
        private int many = 0;
        private int at = 0;
        int fault = 0;

        void addFour(int number) {
            for (int shift = 24; shift >= 0; shift -= 8) {
                if (length >= 0 && length < TAPE_MOST) {
                    bytes[length] = number >> shift & 255;
                    length++;
                }
            }
        }

        /** Finds all tokens; the way along them is at its begin then. */
        void split() {
            many = 0;
            at = 0;
            fault = 0;
            int place = 0;
            for (int i = 0; i < TAPE_MOST && place < length; i++) {
                int sign = byteAt(place);
                if (sign == ' ') {
                    place++;
                } else if (isLetter(sign)) {
                    place = addWord(place);
                } else if (isDigit(sign)) {
                    place = addNumber(place);
                } else {
                    place = addSign(place, sign);
                }
            }
            addToken(TOKEN_END, length, 0);
        }

        private void addToken(int kind, int place, int value) {
            if (many >= 0 && many < TOKENS_MOST) {
                kinds[many] = kind;
                places[many] = place;
                values[many] = value;
                many++;
            }
        }

        private int addSign(int place, int sign) {
            boolean orEqual = byteAt(place + 1) == '=';
            if (sign == '<' && orEqual) {
                addToken(TOKEN_AT_MOST, place, 0);
                return place + 2;
            }
            if (sign == '>' && orEqual) {
                addToken(TOKEN_AT_LEAST, place, 0);
                return place + 2;
            }
            addToken(sign, place, 0);
            return place + 1;
        }

        /** A NUMBER of too many digits is NONE, which is below all that may be told. */
        private int addNumber(int from) {
            int place = from;
            int value = 0;
            while (place < length && isDigit(byteAt(place))) {
                if (place - from < DIGITS_MOST) {
                    value = value * 10 + byteAt(place) - '0';
                }
                place++;
            }
            addToken(TOKEN_NUMBER, from, place - from > DIGITS_MOST ? NONE : value);
            return place;
        }

        private int addWord(int from) {
            int place = from;
            while (place < length && isLetter(byteAt(place))) {
                place++;
            }
            addToken(wordKind(from, place), from, 0);
            return place;
        }

        private int wordKind(int from, int to) {
            int kind = TOKEN_WORD;
            int begin = 0;
            for (int i = 0; i < WORDS.length(); i++) {
                if (WORDS.charAt(i) == ' ') {
                    if (i - begin == to - from && isWord(begin, i, from)) {
                        return kind;
                    }
                    kind++;
                    begin = i + 1;
                }
            }
            return TOKEN_STRANGE_WORD;
        }

        private boolean isWord(int begin, int end, int from) {
            for (int i = begin; i < end && i < WORDS.length(); i++) {
                if (byteAt(from + i - begin) != WORDS.charAt(i)) {
                    return false;
                }
            }
            return true;
        }

        private int byteAt(int place) {
            return place >= 0 && place < length && place < TAPE_MOST ? bytes[place] : NONE;
        }

        private static boolean isLetter(int sign) {
            return sign >= 'a' && sign <= 'z';
        }

        private static boolean isDigit(int sign) {
            return sign >= '0' && sign <= '9';
        }

        /** The kind of the next token; behind a FAULT there is none, so that the way ends there. */
        int next() {
            return fault == 0 && at >= 0 && at < many && at < TOKENS_MOST ? kinds[at] : TOKEN_NONE;
        }

        /** One token further; a FAULT and the end stay where they are. */
        void pass() {
            if (fault == 0 && at < many - 1) {
                at++;
            }
        }

        boolean take(int kind) {
            if (next() != kind) {
                return false;
            }
            pass();
            return true;
        }

        void faultHere(int kind) {
            if (fault == 0 && at >= 0 && at < TOKENS_MOST) {
                fault = 1 + 8 * places[at] + kind;
            }
        }

        int value() {
            return at >= 0 && at < TOKENS_MOST ? values[at] : NONE;
        }

        int number(int least, int most) {
            int value = value();
            if (next() != TOKEN_NUMBER) {
                faultHere(FAULT_SIGN);
                return 0;
            }
            if (value < least || value > most) {
                faultHere(FAULT_NUMBER);
                return 0;
            }
            pass();
            return value;
        }

        /** Whether one more CLAUSE is to come; what is neither its sign nor the end is a FAULT. */
        boolean anotherClause() {
            if (take(';')) {
                return true;
            }
            if (next() != TOKEN_END) {
                faultHere(FAULT_SIGN);
            }
            return false;
        }
    }

    /** Reads the TAPE as a YARD. */
    private static final class YardText {
        private static final int CLAUSES_MOST = 40;

        static void readInto(Tape tape, Lot lot) {
            tape.split();
            lot.clear();
            for (int clause = 0; clause <= CLAUSES_MOST; clause++) {
                readClause(tape, lot, clause);
                if (!tape.anotherClause()) {
                    return;
                }
            }
        }

        private static void readClause(Tape tape, Lot lot, int clause) {
            int word = tape.next();
            boolean many = clause >= CLAUSES_MOST || word == TOKEN_CONKER && lot.size >= CONKERS_MOST;
            if (word != TOKEN_YARD && word != TOKEN_CONKER && word != TOKEN_CRACKED) {
                tape.faultHere(FAULT_SIGN);
            } else if (many || (word == TOKEN_YARD) != (clause == 0)) {
                tape.faultHere(FAULT_CLAUSE);
            } else {
                tape.pass();
                readNumbers(tape, lot, word);
            }
        }

        private static void readNumbers(Tape tape, Lot lot, int word) {
            if (word == TOKEN_YARD) {
                lot.strikes = tape.number(1, STRIKES_MOST);
            } else if (word == TOKEN_CONKER) {
                int hard = tape.number(1, HARD_TOLD_MOST);
                int swing = tape.number(1, SWING_MOST);
                int score = tape.number(0, SCORE_TOLD_MOST);
                lot.add(hard, swing, score);
            } else {
                int conker = tape.number(0, lot.size - 1);
                if (lot.known(conker)) {
                    lot.cracks[conker] = tape.number(0, Math.min(CRACKS_TOLD_MOST, lot.hard[conker] - 1));
                }
            }
        }
    }

    /** A RULE as steps of a machine with a stack, in which a TEST comes behind its CLAUSE's SUM. */
    private static final class Rule {
        /** Each step has a byte of the text of its own, so that a text never has more. */
        static final int STEPS_MOST = TAPE_MOST;

        final int[] steps = new int[STEPS_MOST];
        int length = 0;
        boolean knowsRound = false;

        void clear() {
            length = 0;
            knowsRound = false;
        }

        void become(Rule other) {
            System.arraycopy(other.steps, 0, steps, 0, STEPS_MOST);
            length = other.length;
            knowsRound = other.knowsRound;
        }

        void add(int step) {
            if (step != STEP_NONE && length >= 0 && length < STEPS_MOST) {
                steps[length] = step;
                length++;
            }
        }
    }

    /** Reads the TAPE as a RULE. */
    private static final class RuleText {
        private static final int CLAUSES_MOST = 12;
        private static final int DEPTH_MOST = 10;
        private static final int PARTS_MOST = 60;

        final Rule rule = new Rule();
        private int parts = 0;

        void read(Tape tape) {
            rule.clear();
            parts = 0;
            tape.split();
            for (int clause = 0; clause <= CLAUSES_MOST; clause++) {
                readClause(tape, clause);
                if (!tape.anotherClause()) {
                    return;
                }
            }
        }

        private void readClause(Tape tape, int clause) {
            if (tape.next() != TOKEN_HIT) {
                tape.faultHere(FAULT_SIGN);
                return;
            }
            if (clause >= CLAUSES_MOST) {
                tape.faultHere(FAULT_CLAUSE);
                return;
            }
            tape.pass();
            readSum(tape);
            if (tape.take(TOKEN_IF)) {
                readTest(tape, 0);
                rule.add(STEP_HIT_IF);
            } else {
                rule.add(STEP_HIT);
            }
        }

        /** An "or" waits till the PART behind it is at its end. */
        private void readTest(Tape tape, int depth) {
            int waiting = STEP_NONE;
            readFact(tape, depth);
            for (int i = 0; i < PARTS_MOST; i++) {
                if (tape.take(TOKEN_AND)) {
                    readFact(tape, depth);
                    rule.add(STEP_AND);
                } else if (tape.take(TOKEN_OR)) {
                    rule.add(waiting);
                    waiting = STEP_OR;
                    readFact(tape, depth);
                } else {
                    break;
                }
            }
            rule.add(waiting);
        }

        private void readFact(Tape tape, int depth) {
            int first = tape.next();
            boolean opens = first == TOKEN_NOT || first == '[';
            if (opens && depth >= DEPTH_MOST) {
                tape.faultHere(FAULT_DEEP);
            } else if (tape.take(TOKEN_NOT)) {
                readFact(tape, depth + 1);
                rule.add(STEP_NOT);
            } else if (tape.take('[')) {
                readTest(tape, depth + 1);
                if (!tape.take(']')) {
                    tape.faultHere(FAULT_SIGN);
                }
            } else {
                readSum(tape);
                int step = takeComparison(tape);
                readSum(tape);
                rule.add(step);
            }
        }

        private int takeComparison(Tape tape) {
            int step = comparison(tape.next());
            parts++;
            if (step == STEP_NONE) {
                tape.faultHere(FAULT_SIGN);
            } else if (parts > PARTS_MOST) {
                tape.faultHere(FAULT_MANY);
            }
            tape.pass();
            return step;
        }

        private static int comparison(int kind) {
            switch (kind) {
                case '<': return STEP_LESS;
                case TOKEN_AT_MOST: return STEP_AT_MOST;
                case '=': return STEP_EQUAL;
                case TOKEN_AT_LEAST: return STEP_AT_LEAST;
                case '>': return STEP_MORE;
                default: return STEP_NONE;
            }
        }

        /** A + or - waits till the TERM behind it is at its end. */
        private void readSum(Tape tape) {
            int waiting = STEP_NONE;
            readValue(tape);
            for (int i = 0; i < PARTS_MOST; i++) {
                int step = reckoning(tape.next());
                if (step == STEP_NONE) {
                    break;
                }
                tape.pass();
                if (step == STEP_PLUS || step == STEP_MINUS) {
                    rule.add(waiting);
                    waiting = step;
                    readValue(tape);
                } else {
                    readValue(tape);
                    rule.add(step);
                }
            }
            rule.add(waiting);
        }

        private static int reckoning(int kind) {
            switch (kind) {
                case '+': return STEP_PLUS;
                case '-': return STEP_MINUS;
                case '*': return STEP_TIMES;
                case '/': return STEP_BY;
                case '%': return STEP_REST;
                default: return STEP_NONE;
            }
        }

        /** What is wrong with the VALUE itself comes ahead of its being one too many. */
        private void readValue(Tape tape) {
            int kind = tape.next();
            boolean isWord = kind >= TOKEN_WORD && kind < TOKEN_WORD + VALUE_WORDS;
            parts++;
            if (!isWord && kind != TOKEN_NUMBER) {
                tape.faultHere(FAULT_SIGN);
            } else if (kind == TOKEN_NUMBER && tape.value() == NONE) {
                tape.faultHere(FAULT_NUMBER);
            } else if (parts > PARTS_MOST) {
                tape.faultHere(FAULT_MANY);
            } else if (isWord) {
                rule.add(kind - TOKEN_WORD << STEP_BITS | STEP_WORD);
                rule.knowsRound |= kind == TOKEN_ROUND;
            } else {
                rule.add(tape.value() << STEP_BITS | STEP_NUMBER);
            }
            tape.pass();
        }
    }

    /** Weighs twos by a RULE. */
    private static final class Judge {
        /** Two sums, a term and a value, and two facts for each of eleven levels of TESTS stay below. */
        private static final int STACK_MOST = 64;

        private final long[] words = new long[VALUE_WORDS];
        private final long[] stack = new long[STACK_MOST];

        /** The first two that are WHOLE, as striker * 8 + struck, or NONE. */
        static int firstTwo(Lot lot) {
            int striker = NONE;
            for (int conker = 0; conker < CONKERS_MOST; conker++) {
                if (lot.isWhole(conker)) {
                    if (striker != NONE) {
                        return striker * CONKERS_MOST + conker;
                    }
                    striker = conker;
                }
            }
            return NONE;
        }

        /** The two that a RULE says, as striker * 8 + struck, or NONE. */
        int heaviestTwo(Lot lot, Rule rule) {
            int two = NONE;
            long most = 0;
            tellYard(lot);
            for (int striker = 0; striker < CONKERS_MOST; striker++) {
                if (lot.isWhole(striker)) {
                    tellStriker(lot, striker);
                    for (int struck = 0; struck < CONKERS_MOST; struck++) {
                        if (lot.canMeet(striker, struck)) {
                            tellStruck(lot, struck);
                            long sum = weighed(rule);
                            if (sum > most) {
                                most = sum;
                                two = striker * CONKERS_MOST + struck;
                            }
                        }
                    }
                }
            }
            return two;
        }

        private void tellYard(Lot lot) {
            words[10] = Integer.bitCount(lot.whole);
            words[11] = lot.strikes;
            words[12] = lot.round;
        }

        private void tellStriker(Lot lot, int striker) {
            words[0] = striker;
            words[2] = lot.hard[striker];
            words[3] = lot.swing[striker];
            words[4] = lot.cracks[striker];
            words[5] = lot.score[striker];
        }

        private void tellStruck(Lot lot, int struck) {
            words[1] = struck;
            words[6] = lot.hard[struck];
            words[7] = lot.swing[struck];
            words[8] = lot.cracks[struck];
            words[9] = lot.score[struck];
        }

        /** The SUM of the first CLAUSE that holds, 0 without. */
        private long weighed(Rule rule) {
            int[] steps = rule.steps;
            int length = Math.min(rule.length, steps.length);
            int top = 0;
            for (int i = 0; i < length; i++) {
                int step = steps[i] & STEP_MASK;
                if (step <= STEP_WORD) {
                    if (top >= STACK_MOST) {
                        return 0;
                    }
                    int operand = steps[i] >> STEP_BITS;
                    boolean isWord = step == STEP_WORD && operand >= 0 && operand < VALUE_WORDS;
                    stack[top] = isWord ? words[operand] : operand;
                    top++;
                } else if (step == STEP_NOT || step == STEP_HIT) {
                    if (top < 1) {
                        return 0;
                    }
                    if (step == STEP_HIT) {
                        return stack[top - 1];
                    }
                    stack[top - 1] = stack[top - 1] == 0 ? 1 : 0;
                } else {
                    if (top < 2) {
                        return 0;
                    }
                    top--;
                    if (step != STEP_HIT_IF) {
                        stack[top - 1] = joined(step, stack[top - 1], stack[top]);
                    } else if (stack[top] != 0) {
                        return stack[top - 1];
                    } else {
                        top--;
                    }
                }
            }
            return 0;
        }

        private static long joined(int step, long left, long right) {
            switch (step) {
                case STEP_PLUS: return left + right;
                case STEP_MINUS: return left - right;
                case STEP_TIMES: return left * right;
                case STEP_BY: return right == 0 ? 0 : left / right;
                case STEP_REST: return right == 0 ? 0 : left % right;
                case STEP_LESS: return left < right ? 1 : 0;
                case STEP_AT_MOST: return left <= right ? 1 : 0;
                case STEP_EQUAL: return left == right ? 1 : 0;
                case STEP_AT_LEAST: return left >= right ? 1 : 0;
                case STEP_MORE: return left > right ? 1 : 0;
                case STEP_AND: return left & right;
                case STEP_OR: return left | right;
                default: return 0;
            }
        }
    }

    /** All CONKERS at one time, with STRIKES and ROUND: what a BOUT changes and what it needs. */
    private static final class Lot {
        final int[] hard = new int[CONKERS_MOST];
        final int[] swing = new int[CONKERS_MOST];
        final int[] cracks = new int[CONKERS_MOST];
        final int[] score = new int[CONKERS_MOST];
        int size = 0;
        int strikes = 0;
        int whole = 0;
        int round = 0;

        void clear() {
            size = 0;
            strikes = 0;
            whole = 0;
            round = 0;
        }

        void become(Lot other) {
            System.arraycopy(other.hard, 0, hard, 0, CONKERS_MOST);
            System.arraycopy(other.swing, 0, swing, 0, CONKERS_MOST);
            System.arraycopy(other.cracks, 0, cracks, 0, CONKERS_MOST);
            System.arraycopy(other.score, 0, score, 0, CONKERS_MOST);
            size = other.size;
            strikes = other.strikes;
            whole = other.whole;
            round = other.round;
        }

        void add(int hardness, int swinging, int scored) {
            if (size >= 0 && size < CONKERS_MOST) {
                hard[size] = hardness;
                swing[size] = swinging;
                cracks[size] = 0;
                score[size] = scored;
                whole |= 1 << size;
                size++;
            }
        }

        boolean known(int conker) {
            return conker >= 0 && conker < size && conker < CONKERS_MOST;
        }

        boolean isWhole(int conker) {
            return conker >= 0 && conker < CONKERS_MOST && (whole >> conker & 1) != 0;
        }

        boolean canMeet(int one, int other) {
            return one != other && isWhole(one) && isWhole(other);
        }

        int wholeMany() {
            return Integer.bitCount(whole);
        }

        int wholeSum(int[] row) {
            int sum = 0;
            for (int conker = 0; conker < CONKERS_MOST && conker < row.length; conker++) {
                sum += isWhole(conker) ? row[conker] : 0;
            }
            return sum;
        }

        void harden(int conker, int much) {
            if (known(conker)) {
                hard[conker] = Math.min(HARD_MOST, hard[conker] + much);
            }
        }

        /** Which strike of a BOUT smashes, 0: none does. Odd ones are the first one's. */
        private int smashingStrike(int one, int other) {
            if (one < 0 || one >= CONKERS_MOST || other < 0 || other >= CONKERS_MOST) {
                return 0;
            }
            int onesCracks = cracks[one];
            int othersCracks = cracks[other];
            for (int strike = 1; strike <= 2 * strikes; strike += 2) {
                othersCracks += swing[one];
                if (othersCracks >= hard[other]) {
                    return strike;
                }
                onesCracks += swing[other];
                if (onesCracks >= hard[one]) {
                    return strike + 1;
                }
            }
            return 0;
        }

        int strikesOf(int one, int other) {
            int smashing = smashingStrike(one, other);
            return smashing == 0 ? 2 * strikes : smashing;
        }

        int smasher(int one, int other) {
            int smashing = smashingStrike(one, other);
            if (smashing == 0) {
                return NO_ONE;
            }
            return smashing % 2 == 1 ? one : other;
        }

        /** All that this one would smash if it strikes first, as bits. */
        int smashable(int one) {
            int bits = 0;
            for (int other = 0; other < CONKERS_MOST; other++) {
                if (canMeet(one, other) && smasher(one, other) == one) {
                    bits |= 1 << other;
                }
            }
            return bits;
        }

        /** A BOUT: who is SMASHED, or NO_ONE. */
        int fight(int one, int other) {
            if (!canMeet(one, other)) {
                return NO_ONE;
            }
            int smashing = smashingStrike(one, other);
            int all = smashing == 0 ? 2 * strikes : smashing;
            cracks[other] += (all + 1) / 2 * swing[one];
            cracks[one] += all / 2 * swing[other];
            if (smashing == 0) {
                return NO_ONE;
            }
            boolean firstWins = smashing % 2 == 1;
            smash(firstWins ? other : one, firstWins ? one : other);
            return firstWins ? other : one;
        }

        private void smash(int loser, int winner) {
            if (loser < 0 || loser >= CONKERS_MOST || winner < 0 || winner >= CONKERS_MOST) {
                return;
            }
            whole &= ~(1 << loser);
            cracks[loser] = hard[loser];
            score[winner] = Math.min(SCORE_MOST, score[winner] + score[loser] + 1);
            score[loser] = 0;
        }

        void healAllBut(int bits) {
            for (int conker = 0; conker < CONKERS_MOST; conker++) {
                boolean heals = isWhole(conker) && (bits >> conker & 1) == 0;
                if (heals && cracks[conker] > 0) {
                    cracks[conker]--;
                }
            }
        }

        /** What one has of PENCE: its part downwards, and one more if it is early among what lost most. */
        int part(int much, int conker) {
            int all = wholeSum(score);
            if (!isWhole(conker) || all <= 0) {
                return 0;
            }
            int left = much;
            int ahead = 0;
            int lost = much * score[conker] % all;
            for (int other = 0; other < CONKERS_MOST; other++) {
                if (isWhole(other)) {
                    left -= much * score[other] / all;
                    int othersLost = much * score[other] % all;
                    ahead += othersLost > lost || othersLost == lost && other < conker ? 1 : 0;
                }
            }
            return much * score[conker] / all + (ahead < left ? 1 : 0);
        }
    }

    /** What was told of WHOLE ones behind ROUNDS. */
    private static final class Notes {
        private final int[] rounds = new int[NOTES_MOST];
        private final int[] conkers = new int[NOTES_MOST];
        private final int[] wholes = new int[NOTES_MOST];
        int many = 0;

        void become(Notes other) {
            System.arraycopy(other.rounds, 0, rounds, 0, NOTES_MOST);
            System.arraycopy(other.conkers, 0, conkers, 0, NOTES_MOST);
            System.arraycopy(other.wholes, 0, wholes, 0, NOTES_MOST);
            many = other.many;
        }

        boolean add(int round, int conker, int whole) {
            if (many < 0 || many >= NOTES_MOST) {
                return false;
            }
            rounds[many] = round;
            conkers[many] = conker;
            wholes[many] = whole;
            many++;
            return true;
        }

        /** The last ROUND that a NOTE is of, NONE without any. */
        int latest() {
            int latest = NONE;
            for (int i = 0; i < many && i < NOTES_MOST; i++) {
                latest = Math.max(latest, rounds[i]);
            }
            return latest;
        }

        boolean areSo(int round, Lot lot) {
            for (int i = 0; i < many && i < NOTES_MOST; i++) {
                if (rounds[i] == round && lot.isWhole(conkers[i]) != (wholes[i] == 1)) {
                    return false;
                }
            }
            return true;
        }
    }

    /** All that an IMAGE keeps. */
    private static final class World {
        final Lot begin = new Lot();
        final Lot now = new Lot();
        final Notes notes = new Notes();
        boolean there = false;
        int inForce = NONE;
        int x = 0;

        void become(World other) {
            begin.become(other.begin);
            now.become(other.now);
            notes.become(other.notes);
            there = other.there;
            inForce = other.inForce;
            x = other.x;
        }
    }

    /** How it was ahead of each of the last ACTS, in a ring. */
    private static final class Acts {
        private final Lot[] kept = new Lot[ACTS_MOST];
        private int next = 0;
        int many = 0;

        Acts() {
            for (int i = 0; i < ACTS_MOST; i++) {
                kept[i] = new Lot();
            }
        }

        void keep(Lot now) {
            Lot lot = keptAt(next);
            if (lot != null) {
                lot.become(now);
                next = (next + 1) % ACTS_MOST;
                many = Math.min(ACTS_MOST, many + 1);
            }
        }

        boolean giveBack(Lot now) {
            int before = (next + ACTS_MOST - 1) % ACTS_MOST;
            Lot lot = keptAt(before);
            if (many <= 0 || lot == null) {
                return false;
            }
            now.become(lot);
            next = before;
            many--;
            return true;
        }

        private Lot keptAt(int i) {
            return i >= 0 && i < ACTS_MOST ? kept[i] : null;
        }
    }

    /** How ROUNDS go on, on a trial of its own. */
    private static final class Course {
        /** Of so many SWINGS, 4 apart, RESTS has each one take one. */
        static final int STRINGS = 4;
        private static final int TWOS = STRINGS * STRINGS;

        private final Judge judge = new Judge();
        private final Lot trial = new Lot();
        private boolean still = false;
        private final int[] onesGain = new int[TWOS];
        private final int[] othersGain = new int[TWOS];
        int drawn = 0;

        Lot from(Lot lot) {
            trial.become(lot);
            still = false;
            return trial;
        }

        /** A ROUND: who strikes first in it, or NO_ONE. */
        int playRound(Lot lot, Rule rule) {
            int two = rule == null ? Judge.firstTwo(lot) : judge.heaviestTwo(lot, rule);
            lot.round++;
            if (two == NONE) {
                lot.healAllBut(0);
                return NO_ONE;
            }
            int striker = two / CONKERS_MOST;
            int struck = two % CONKERS_MOST;
            lot.fight(striker, struck);
            lot.healAllBut(1 << striker | 1 << struck);
            return striker;
        }

        /** A ROUND of the trial. Once nothing but ROUND can change, it is not weighed again: that is dear. */
        private void goRound(Rule rule) {
            if (still) {
                trial.round++;
                return;
            }
            boolean healed = trial.wholeSum(trial.cracks) == 0;
            boolean quiet = playRound(trial, rule) == NO_ONE;
            still = healed && quiet && (rule == null || !rule.knowsRound);
        }

        void goOn(Rule rule, int rounds) {
            for (int i = 0; i < rounds && i < ROUNDS_AHEAD; i++) {
                goRound(rule);
            }
        }

        /** The ROUND, by its own number, in which that one is SMASHED, or NO_ONE. */
        int smashedIn(int conker, Rule rule) {
            for (int i = 0; i < ROUNDS_WATCHED; i++) {
                int round = trial.round;
                goRound(rule);
                if (!trial.isWhole(conker)) {
                    return round;
                }
            }
            return NO_ONE;
        }

        /** The ROUND, by its own number, behind which at most one is WHOLE, or NO_ONE. */
        int aloneBehind(Rule rule) {
            for (int i = 0; i < ROUNDS_WATCHED; i++) {
                int round = trial.round;
                goRound(rule);
                if (trial.wholeMany() <= 1) {
                    return round;
                }
            }
            return NO_ONE;
        }

        /** How many are WHOLE behind ROUNDS if that one (NONE: none) is pickled first. */
        int wholeWith(Lot now, int pickled, Rule rule, int rounds) {
            from(now);
            trial.harden(pickled, 5);
            goOn(rule, rounds);
            return trial.wholeMany();
        }

        /** Whether all NOTES, each of what is behind its ROUND, are so as the trial, at its begin, goes on. */
        boolean fits(Rule rule, Notes notes) {
            int latest = Math.min(NOTED_ROUNDS, notes.latest());
            for (int round = 0; round <= latest; round++) {
                goRound(rule);
                if (!notes.areSo(round, trial)) {
                    return false;
                }
            }
            return true;
        }

        int stringOf(int i) {
            return 4 * (i + 1);
        }

        void weighStrings(Lot now, int one, int other, Rule rule, int rounds) {
            if (!now.canMeet(one, other)) {
                return;
            }
            for (int two = 0; two < TWOS; two++) {
                from(now);
                trial.swing[one] = stringOf(two / STRINGS);
                trial.swing[other] = stringOf(two % STRINGS);
                goOn(rule, rounds);
                onesGain[two] = gain(one);
                othersGain[two] = gain(other);
            }
        }

        private int gain(int conker) {
            if (!trial.known(conker)) {
                return 0;
            }
            return trial.score[conker] + (trial.isWhole(conker) ? 10 : 0);
        }

        private boolean isRest(int two) {
            if (two < 0 || two >= TWOS) {
                return false;
            }
            for (int i = 0; i < STRINGS; i++) {
                boolean oneGains = onesGain[i * STRINGS + two % STRINGS] > onesGain[two];
                boolean otherGains = othersGain[two / STRINGS * STRINGS + i] > othersGain[two];
                if (oneGains || otherGains) {
                    return false;
                }
            }
            return true;
        }

        int restsMany() {
            int many = 0;
            for (int two = 0; two < TWOS; two++) {
                many += isRest(two) ? 1 : 0;
            }
            return many;
        }

        int firstRest() {
            for (int two = 0; two < TWOS; two++) {
                if (isRest(two)) {
                    return two;
                }
            }
            return NONE;
        }

        private int draw() {
            drawn = (int) ((drawn * 1103515245L + 12345L) % 2147483648L);
            return drawn / 65536;
        }

        void goOnInFrost(Rule rule, int rounds, int percent) {
            for (int i = 0; i < rounds && i < ROUNDS_AHEAD; i++) {
                if (draw() % 100 < percent && trial.size > 0) {
                    freeze(draw() % trial.size);
                }
                goRound(rule);
            }
        }

        private void freeze(int conker) {
            if (trial.isWhole(conker)) {
                trial.cracks[conker] = Math.min(trial.hard[conker] - 1, trial.cracks[conker] + 3);
                still = false;
            }
        }
    }

    /** Who BEATS whom, and what follows. */
    private static final class Pecking {
        private static final int SETS = 256;
        /** Four twos, two twos and one, and a step ahead of each of these three. */
        private static final int CUP_DEPTH = 10;

        private final int[] smashable = new int[CONKERS_MOST];
        private final int[] reach = new int[CONKERS_MOST];
        private final int[] longest = new int[SETS * CONKERS_MOST];
        private int whole = 0;
        final int[] row = new int[CONKERS_MOST];
        int rowLength = 0;
        final int[] cupsWon = new int[CONKERS_MOST];
        int cupsMany = 0;

        void see(Lot lot) {
            whole = lot.whole & (SETS - 1);
            for (int conker = 0; conker < CONKERS_MOST; conker++) {
                smashable[conker] = lot.isWhole(conker) ? lot.smashable(conker) : 0;
            }
        }

        private static boolean has(int bits, int conker) {
            return (bits >> conker & 1) != 0;
        }

        /** Whom rows of at least two lead to, each of these the first, within a set. */
        private void findReach(int set) {
            for (int conker = 0; conker < CONKERS_MOST; conker++) {
                reach[conker] = has(set, conker) ? smashable[conker] & set : 0;
            }
            for (int through = 0; through < CONKERS_MOST; through++) {
                for (int conker = 0; conker < CONKERS_MOST; conker++) {
                    if (has(reach[conker], through)) {
                        reach[conker] |= reach[through];
                    }
                }
            }
        }

        /** Rows of smashing to all others are enough: whoever is farthest off is out first. */
        boolean canOutlast(int conker) {
            findReach(whole);
            return conker >= 0 && conker < CONKERS_MOST && (reach[conker] | 1 << conker) == whole;
        }

        /** One BOUT for each lot of others that smash one another around and that no other one leads to. */
        int fewestBouts(int conker) {
            int others = whole & ~(1 << conker);
            findReach(others);
            int many = 0;
            for (int other = 0; other < CONKERS_MOST; other++) {
                many += has(others, other) && isFirstOfSource(other) ? 1 : 0;
            }
            return many;
        }

        private boolean isFirstOfSource(int conker) {
            for (int other = 0; other < CONKERS_MOST; other++) {
                boolean leadsHere = other != conker && has(reach[other], conker);
                if (leadsHere && (other < conker || !has(reach[conker], other))) {
                    return false;
                }
            }
            return true;
        }

        int onRings() {
            findReach(whole);
            int bits = 0;
            for (int conker = 0; conker < CONKERS_MOST; conker++) {
                bits |= reach[conker] & 1 << conker;
            }
            return bits;
        }

        /** Those that BEAT each other one, or one that BEATS it. */
        int withinTwo() {
            int bits = 0;
            for (int conker = 0; conker < CONKERS_MOST; conker++) {
                int near = smashable[conker] | 1 << conker;
                for (int other = 0; other < CONKERS_MOST; other++) {
                    near |= has(smashable[conker], other) ? smashable[other] : 0;
                }
                bits |= has(whole, conker) && near == whole ? 1 << conker : 0;
            }
            return bits;
        }

        void findLadder() {
            for (int set = 1; set < SETS; set++) {
                if ((set & ~whole) == 0) {
                    for (int conker = 0; conker < CONKERS_MOST; conker++) {
                        if (has(set, conker)) {
                            int rest = set & ~(1 << conker);
                            longest[set * CONKERS_MOST + conker] = 1 + longestOf(smashable[conker], rest);
                        }
                    }
                }
            }
            rowLength = longestOf(whole, whole);
            layRow();
        }

        /** How long a row within a set can be that begins with one of these. */
        private int longestOf(int firsts, int set) {
            int most = 0;
            for (int conker = 0; conker < CONKERS_MOST; conker++) {
                if (has(firsts & set, conker)) {
                    most = Math.max(most, longest[(set & SETS - 1) * CONKERS_MOST + conker]);
                }
            }
            return most;
        }

        private void layRow() {
            int set = whole;
            int firsts = whole;
            for (int place = 0; place < rowLength && place < CONKERS_MOST; place++) {
                for (int conker = 0; conker < CONKERS_MOST; conker++) {
                    boolean goesOn = has(firsts & set, conker)
                        && longest[(set & SETS - 1) * CONKERS_MOST + conker] == rowLength - place;
                    if (goesOn) {
                        row[place] = conker;
                        set &= ~(1 << conker);
                        firsts = smashable[conker];
                        break;
                    }
                }
            }
        }

        void playCups(Lot lot) {
            cupsMany = 0;
            for (int conker = 0; conker < CONKERS_MOST; conker++) {
                cupsWon[conker] = 0;
            }
            pairUp(lot, whole, 0, 0);
        }

        /** The least of those that are left meets each of the others that are. */
        private void pairUp(Lot lot, int left, int on, int depth) {
            if (depth > CUP_DEPTH) {
                return;
            }
            if (left == 0) {
                goOnWith(lot, on, depth);
                return;
            }
            int one = least(left);
            for (int other = one + 1; other < CONKERS_MOST; other++) {
                if (has(left, other)) {
                    int winner = lot.smasher(one, other) == other ? other : one;
                    pairUp(lot, left & ~(1 << one | 1 << other), on | 1 << winner, depth + 1);
                }
            }
        }

        private void goOnWith(Lot lot, int on, int depth) {
            int first = least(on);
            if (first < 0 || first >= CONKERS_MOST) {
                return;
            }
            if (on == 1 << first) {
                cupsMany++;
                cupsWon[first]++;
            } else {
                pairUp(lot, on, 0, depth + 1);
            }
        }

        private static int least(int bits) {
            int least = 0;
            while (least < CONKERS_MOST && !has(bits, least)) {
                least++;
            }
            return least;
        }
    }
}
