/** Socks and gloves out of a bag on a small table; the terms are those of DOC.md. */
public final class SockTable {
    public static final int NONE = -1;

    private static final int NOTHING = -2;
    private static final int MOST_KINDS = 8;
    private static final int MOST_OF_KIND = 9;
    private static final int MOST_THINGS = 18;
    private static final int MOST_UNLIKE = 99;
    private static final int NOT_LIKE = 100;
    private static final int MOST_SLOTS = 3;
    private static final int MOST_UNDONE = 40;
    private static final int MOST_DRAWS = 500;
    private static final int SOONEST_DRAWS = 200;
    private static final int MOST_SEEDS = 30;
    private static final int MOST_WEEKS = 200;
    private static final int FEED_BYTES = 20;

    private static final int MOST_BYTES = 2000;
    private static final int MOST_TOKENS = 400;
    private static final int MOST_NAME_LETTERS = 8;
    private static final int MOST_DIGITS = 4;
    private static final int MOST_LIKES = 15;
    private static final int MOST_IFS = 4;
    private static final int MOST_BRACKETS = 6;

    private static final int FAULT_SYNTAX = 1;
    private static final int FAULT_ROOM = 2;
    private static final int FAULT_TWICE = 3;
    private static final int FAULT_NAME = 4;
    private static final int FAULT_WRONG = 5;

    // What a token is: one of these four, or the sign's own number, or a word's place in WORDS.
    private static final int END = 0;
    private static final int NAME = 1;
    private static final int INT = 2;
    private static final int NO_TOKEN = 3;
    private static final String SIGNS = ";=+-*/<()";
    private static final String WORDS =
        "sock glove like near table full back stop few many line right seed lose if then else week kind there all lot ";
    private static final int WORD_COUNT = 22;
    private static final int SOCK = 128;
    private static final int GLOVE = 129;
    private static final int LIKE = 130;
    private static final int NEAR = 131;
    private static final int TABLE = 132;
    private static final int FULL = 133;
    private static final int BACK_WORD = 134;
    private static final int MANY_WORD = 137;
    private static final int LINE = 138;
    private static final int RIGHT = 139;
    private static final int SEED = 140;
    private static final int LOSE = 141;
    private static final int IF = 142;
    private static final int THEN = 143;
    private static final int ELSE = 144;
    private static final int FIRST_VAR = 145;
    private static final int LAST_VAR = 149;
    private static final int VARS = 5;

    // The ways of FULL, numbered as the words stand.
    private static final int BACK = 0;
    private static final int STOP = 1;
    private static final int FEW = 2;
    private static final int MANY = 3;

    // What a draw tells.
    private static final int LIES = 0;
    private static final int ROLLED = 1;
    private static final int WAS_FULL = 2;
    private static final int STOPPED = 3;

    // The teller makes the tape, the grammar and the draft itself: nothing of this object is handed out while it is made.
    private final Teller teller = new Teller();
    private final Grammar grammar = teller.grammar;
    private final Tape tape = grammar.tape;
    private final Text told = new Text();
    private int faultPlace = NONE;

    private final State now = new State();
    private final State trial = new State();
    private final State[] past = new State[MOST_UNDONE];
    private int pastStart;
    private int pastCount;
    private final State[] slots = new State[MOST_SLOTS];
    private final boolean[] held = new boolean[MOST_SLOTS];

    private final Orders orders = new Orders();
    private final Odds odds = new Odds();
    private final Losses losses = new Losses();
    private final Seen seen = new Seen();

    public SockTable() {
        for (int i = 0; i < past.length; i++) {
            past[i] = new State();
        }
        for (int i = 0; i < slots.length; i++) {
            slots[i] = new State();
        }
    }

    public int feed(int a, int b, int c, int d, int e) {
        if (tape.length + FEED_BYTES > MOST_BYTES) {
            return NONE;
        }
        tape.addFour(a);
        tape.addFour(b);
        tape.addFour(c);
        tape.addFour(d);
        tape.addFour(e);
        return tape.length;
    }

    public int back(int n) {
        if (n < 0 || n > tape.length) {
            return NONE;
        }
        tape.length -= n;
        return tape.length;
    }

    public int read() {
        tape.split();
        tape.length = 0;
        int fault = grammar.check();
        int token = grammar.next;
        if (fault == 0) {
            fault = teller.tellAll();
            token = teller.faultToken;
        }
        if (fault != 0) {
            faultPlace = tape.startAt(token);
            return fault;
        }
        faultPlace = NONE;
        told.become(teller.draft);
        beginAnew();
        return 0;
    }

    public int place() {
        return faultPlace;
    }

    public int kind(int kind, int what) {
        if (!isKind(kind)) {
            return NONE;
        }
        switch (what) {
            case 0: return at(now.bag, kind);
            case 1: return at(now.table, kind);
            case 2: return at(told.number, kind);
            case 3: return at(told.partner, kind);
            case 4: return at(now.rolled, Math.min(kind, at(told.partner, kind)));
            case 5: return at(told.nameOf, kind);
            default: return NONE;
        }
    }

    public int unlike(int a, int b) {
        if (a < 0 || a >= told.names || b < 0 || b >= told.names) {
            return NONE;
        }
        return told.unlikeness(a, b);
    }

    public int draw(int kind) {
        if (!isKind(kind) || at(now.bag, kind) < 1) {
            return NONE;
        }
        if (now.stopped) {
            return STOPPED;
        }
        remember();
        return now.drawOne(told, kind, told.full);
    }

    public int lot() {
        if (total(now.bag) == 0) {
            return NOTHING;
        }
        if (now.stopped) {
            return STOPPED;
        }
        remember();
        int kind = now.pick(told.seed);
        return 10 * kind + now.drawOne(told, kind, told.full);
    }

    public boolean take(int kind) {
        if (!isKind(kind) || at(now.table, kind) < 1) {
            return false;
        }
        remember();
        now.takeAway(kind);
        return true;
    }

    public boolean undo() {
        if (pastCount < 1) {
            return false;
        }
        pastCount--;
        now.become(past[Math.floorMod(pastStart + pastCount, MOST_UNDONE)]);
        return true;
    }

    public long within(int t) {
        if (t < 0 || t > MOST_THINGS) {
            return NONE;
        }
        orders.look(now, told);
        return orders.withinCount(t);
    }

    public long lies(int k) {
        if (k < 0 || k > total(now.bag)) {
            return NONE;
        }
        orders.look(now, told);
        return orders.lyingAfter(k);
    }

    public long mosts() {
        orders.look(now, told);
        return orders.sumOfMosts();
    }

    public int sure(int a, int b) {
        if (b < 1 || b > 99 || a < 0 || a > b) {
            return NONE;
        }
        orders.look(now, told);
        return orders.leastSure(a, b);
    }

    public int evening(int most) {
        if (most < 1 || most > MOST_DRAWS) {
            return NONE;
        }
        trial.become(now);
        return trial.playOut(told, told.seed, told.full, most);
    }

    public int soonest(int n, int what) {
        if (n < 1 || n > MOST_SEEDS || what < 0 || what > 1) {
            return NONE;
        }
        int best = BACK;
        int bestSum = sumOfEvenings(n, BACK);
        for (int full = STOP; full <= MANY; full++) {
            int sum = sumOfEvenings(n, full);
            if (sum < bestSum) {
                best = full;
                bestSum = sum;
            }
        }
        return what == 0 ? best : bestSum;
    }

    public int line() {
        return told.mostOut(0, 0);
    }

    public int exchange(int what) {
        if (what < 0 || what > 1) {
            return NONE;
        }
        int best = told.mostOut(0, 0);
        int places = NOTHING;
        for (int i = 0; i < told.hungCount; i++) {
            for (int j = i + 1; j < told.hungCount; j++) {
                int most = told.mostOut(i, j);
                if (most < best) {
                    best = most;
                    places = 100 * i + j;
                }
            }
        }
        return what == 0 ? places : best;
    }

    public int odd(int what) {
        if (what < 0 || what > 1) {
            return NONE;
        }
        odds.pairUp(now.table, told);
        return what == 0 ? odds.pairs : odds.sum;
    }

    public long lost(int w, int a, int b) {
        if (w < 0 || w > MOST_THINGS || b < 1 || b > 9 || a < 0 || a > b) {
            return NONE;
        }
        return losses.waysWithout(now, told, w, a, b);
    }

    public int years(int n, int what) {
        if (n < 1 || n > MOST_WEEKS || what < 0 || what > 2) {
            return NONE;
        }
        losses.liveUntil(told, n);
        switch (what) {
            case 0: return at(losses.leftAfter, n - 1);
            case 1: return at(losses.pairsAfter, n - 1);
            default: return losses.firstLost >= 0 && losses.firstLost < n ? losses.firstLost : NOTHING;
        }
    }

    public int see(int kind, int many) {
        if (!isKind(kind) || many < 0 || many > MOST_THINGS) {
            return NONE;
        }
        return seen.note(kind, many);
    }

    public int forget() {
        int were = seen.count;
        seen.count = 0;
        return were;
    }

    public long rows(int k, int n) {
        if (k < 0 || k > seen.count || n < 0 || n > MOST_THINGS) {
            return NONE;
        }
        return seen.countRows(told, k, n, NONE, 0);
    }

    public int span(int k, int n, int kind) {
        if (k < 0 || k > seen.count || n < 0 || n > MOST_THINGS || !isKind(kind)) {
            return NONE;
        }
        int least = NONE;
        int greatest = NONE;
        for (int i = 0; i <= MOST_OF_KIND; i++) {
            if (seen.countRows(told, k, n, kind, i) > 0) {
                least = least == NONE ? i : least;
                greatest = i;
            }
        }
        return least == NONE ? NOTHING : 100 * least + greatest;
    }

    public boolean hold(int slot) {
        if (slot < 0 || slot >= MOST_SLOTS) {
            return false;
        }
        slots[slot].become(now);
        held[slot] = true;
        return true;
    }

    public boolean restore(int slot) {
        if (slot < 0 || slot >= MOST_SLOTS || !held[slot]) {
            return false;
        }
        now.become(slots[slot]);
        pastCount = 0;
        return true;
    }

    public int count(int what) {
        switch (what) {
            case 0: return told.kinds;
            case 1: return told.names;
            case 2: return total(told.number);
            case 3: return total(now.bag);
            case 4: return total(now.table);
            case 5: return total(now.rolled);
            case 6: return told.room;
            case 7: return told.full;
            case 8: return now.draws;
            case 9: return told.hungCount;
            case 10: return told.near;
            case 11: return tape.length;
            case 12: return pastCount;
            case 13: return seen.count;
            case 14: return slotsHeld();
            default: return NONE;
        }
    }

    private boolean isKind(int kind) {
        return kind >= 0 && kind < told.kinds;
    }

    private void beginAnew() {
        now.begin(told);
        losses.begin(told);
        seen.count = 0;
        pastCount = 0;
        for (int i = 0; i < held.length; i++) {
            held[i] = false;
        }
    }

    private void remember() {
        past[Math.floorMod(pastStart + pastCount, MOST_UNDONE)].become(now);
        if (pastCount < MOST_UNDONE) {
            pastCount++;
        } else {
            pastStart = (pastStart + 1) % MOST_UNDONE;
        }
    }

    private int slotsHeld() {
        int many = 0;
        for (int i = 0; i < held.length; i++) {
            many += held[i] ? 1 : 0;
        }
        return many;
    }

    private int sumOfEvenings(int seeds, int full) {
        int sum = 0;
        for (int seed = 0; seed < seeds; seed++) {
            trial.become(now);
            int draws = trial.playOut(told, seed, full, SOONEST_DRAWS);
            sum += total(trial.bag) > 0 ? MOST_DRAWS : draws;
        }
        return sum;
    }

    /** LOT n of a SEED and a which. */
    private static int chance(int n, int seed, int which) {
        int h = mixed(mixed(seed, 26), which);
        return n < 1 ? 0 : (h >>> 1) % n;
    }

    private static int mixed(int h, int it) {
        int product = (h ^ it) * 1103515245 + 12345;
        return product ^ (product >>> 15);
    }

    private static int at(int[] row, int i) {
        return i >= 0 && i < row.length ? row[i] : 0;
    }

    private static long longAt(long[] row, int i) {
        return i >= 0 && i < row.length ? row[i] : 0;
    }

    private static void put(int[] row, int i, int value) {
        if (i >= 0 && i < row.length) {
            row[i] = value;
        }
    }

    private static void add(int[] row, int i, int more) {
        if (i >= 0 && i < row.length) {
            row[i] += more;
        }
    }

    private static int total(int[] row) {
        int sum = 0;
        for (int i = 0; i < row.length; i++) {
            sum += row[i];
        }
        return sum;
    }

    private static void copyRow(int[] from, int[] to) {
        for (int i = 0; i < from.length && i < to.length; i++) {
            to[i] = from[i];
        }
    }

    private static boolean sameRow(int[] one, int[] other) {
        boolean same = one.length == other.length;
        for (int i = 0; same && i < one.length && i < other.length; i++) {
            same = one[i] == other[i];
        }
        return same;
    }

    private static long factorial(int n) {
        long product = 1;
        for (int i = 2; i <= n; i++) {
            product *= i;
        }
        return product;
    }

    private static long choose(int n, int k) {
        long ways = k < 0 || k > n ? 0 : 1;
        for (int i = 0; i < k && i < n; i++) {
            ways = ways * (n - i) / (i + 1);
        }
        return ways;
    }

    private static long power(int base, int exponent) {
        long product = 1;
        for (int i = 0; i < exponent; i++) {
            product *= base;
        }
        return product;
    }

    /** The bytes that were fed, and the tokens that they make. */
    private static final class Tape {
        final int[] bytes = new int[MOST_BYTES];
        int length;
        // One more than may be, so that the 401st can be told, and the text's end.
        final int[] types = new int[MOST_TOKENS + 2];
        final long[] values = new long[MOST_TOKENS + 2];
        final int[] starts = new int[MOST_TOKENS + 2];
        int tokens;
        final long[] words = new long[WORD_COUNT];

        Tape() {
            int word = 0;
            for (int i = 0; i < WORDS.length(); i++) {
                char c = WORDS.charAt(i);
                if (c == ' ') {
                    word++;
                } else if (word < words.length) {
                    words[word] = withLetter(words[word], c);
                }
            }
        }

        void addFour(int four) {
            for (int shift = 24; shift >= 0; shift -= 8) {
                put(bytes, length, (four >>> shift) & 255);
                length++;
            }
        }

        void split() {
            tokens = 0;
            int from = afterBlanks(0);
            for (int n = 0; n <= MOST_TOKENS && from < length; n++) {
                from = afterBlanks(splitOff(from));
            }
            addToken(END, 0, length);
        }

        int typeAt(int token) {
            return token >= 0 && token < tokens && token < types.length ? types[token] : END;
        }

        long valueAt(int token) {
            return longAt(values, token);
        }

        int intAt(int token) {
            return (int) longAt(values, token);
        }

        int startAt(int token) {
            return at(starts, token);
        }

        private int afterBlanks(int from) {
            int i = from;
            while (i < length && isBlank(at(bytes, i))) {
                i++;
            }
            return i;
        }

        private int splitOff(int from) {
            int c = at(bytes, from);
            if (isLetter(c)) {
                return splitOffLetters(from);
            }
            if (isDigit(c)) {
                return splitOffDigits(from);
            }
            addToken(isSign(c) ? c : NO_TOKEN, 0, from);
            return from + 1;
        }

        private int splitOffLetters(int from) {
            int to = from;
            long code = 0;
            while (to < length && isLetter(at(bytes, to))) {
                code = to - from < MOST_NAME_LETTERS ? withLetter(code, at(bytes, to)) : code;
                to++;
            }
            addToken(to - from > MOST_NAME_LETTERS ? NO_TOKEN : typeOfLetters(code), code, from);
            return to;
        }

        private int splitOffDigits(int from) {
            int to = from;
            int value = 0;
            while (to < length && isDigit(at(bytes, to))) {
                value = to - from < MOST_DIGITS ? 10 * value + at(bytes, to) - '0' : value;
                to++;
            }
            addToken(to - from > MOST_DIGITS ? NO_TOKEN : INT, value, from);
            return to;
        }

        private int typeOfLetters(long code) {
            for (int i = 0; i < words.length; i++) {
                if (words[i] == code) {
                    return SOCK + i;
                }
            }
            return NAME;
        }

        private void addToken(int type, long value, int start) {
            if (tokens >= 0 && tokens < types.length && tokens < values.length && tokens < starts.length) {
                types[tokens] = type;
                values[tokens] = value;
                starts[tokens] = start;
                tokens++;
            }
        }

        private static long withLetter(long code, int letter) {
            return 27 * code + letter - 'a' + 1;
        }

        private static boolean isBlank(int c) {
            return c == 9 || c == 10 || c == 13 || c == 32;
        }

        private static boolean isLetter(int c) {
            return c >= 'a' && c <= 'z';
        }

        private static boolean isDigit(int c) {
            return c >= '0' && c <= '9';
        }

        private static boolean isSign(int c) {
            return SIGNS.indexOf((char) c) >= 0;
        }
    }

    /** Looks for the faults SYNTAX and ROOM, and writes down the law on the way. */
    private static final class Grammar {
        final Tape tape = new Tape();
        final Law law = new Law();
        // The token that is looked at; of a text with a fault in the end that where it is.
        int next;
        private int type;
        private int fault;
        private int kinds;
        private int likes;
        private int ifs;

        int check() {
            law.clear();
            next = 0;
            type = tape.typeAt(0);
            fault = 0;
            kinds = 0;
            likes = 0;
            ifs = 0;
            boolean goesOn = true;
            for (int n = 0; n <= MOST_TOKENS && goesOn && type != END; n++) {
                goesOn = type == LOSE ? step(LOSE) && step('=') && wholeLaw() && step(';') : tell();
            }
            return fault;
        }

        private boolean tell() {
            switch (type) {
                case SOCK: return addKinds(1) && step(SOCK) && step(NAME) && step(INT) && step(';');
                case GLOVE: return addKinds(2) && step(GLOVE) && step(NAME) && step(INT) && step(INT) && step(';');
                case LIKE: return addLike() && step(LIKE) && step(NAME) && step(NAME) && step(INT) && step(';');
                case NEAR: return step(NEAR) && step(INT) && step(';');
                case TABLE: return step(TABLE) && step(INT) && step(';');
                case FULL: return step(FULL) && wayOfFull() && step(';');
                case LINE: return step(LINE) && sides() && step(';');
                case SEED: return step(SEED) && step(INT) && step(';');
                default: return fail(FAULT_SYNTAX);
            }
        }

        private boolean addKinds(int more) {
            kinds += more;
            return kinds <= MOST_KINDS || fail(FAULT_ROOM);
        }

        private boolean addLike() {
            likes++;
            return likes <= MOST_LIKES || fail(FAULT_ROOM);
        }

        private boolean addIf() {
            ifs++;
            return ifs <= MOST_IFS || fail(FAULT_ROOM);
        }

        private boolean wayOfFull() {
            return type >= BACK_WORD && type <= MANY_WORD ? step(type) : fail(FAULT_SYNTAX);
        }

        private boolean sides() {
            boolean goesOn = true;
            for (int n = 0; n <= MOST_TOKENS && goesOn && (type == NAME || type == RIGHT); n++) {
                goesOn = type == NAME ? step(NAME) : step(RIGHT) && step(NAME);
            }
            return goesOn;
        }

        /** What is written behind a fault does no harm: such a law is never told. */
        private boolean wholeLaw() {
            law.clear();
            boolean goesOn = true;
            for (int n = 0; n <= MOST_IFS && goesOn && type == IF; n++) {
                goesOn = addIf() && step(IF) && sum(0) && step('<') && sum(0) && step(THEN);
                int test = law.write(Law.UNLESS_LESS, 0);
                goesOn = goesOn && sum(0) && step(ELSE);
                law.write(Law.DONE, 0);
                law.aim(test);
            }
            goesOn = goesOn && sum(0);
            law.write(Law.DONE, 0);
            return goesOn;
        }

        private boolean sum(int depth) {
            boolean goesOn = product(depth);
            for (int n = 0; n <= MOST_TOKENS && goesOn && (type == '+' || type == '-'); n++) {
                int sign = type;
                goesOn = step(sign) && product(depth);
                law.write(sign, 0);
            }
            return goesOn;
        }

        private boolean product(int depth) {
            boolean goesOn = unit(depth);
            for (int n = 0; n <= MOST_TOKENS && goesOn && (type == '*' || type == '/'); n++) {
                int sign = type;
                goesOn = step(sign) && unit(depth);
                law.write(sign, 0);
            }
            return goesOn;
        }

        private boolean unit(int depth) {
            if (type == INT) {
                law.write(INT, tape.intAt(next));
                return step(INT);
            }
            if (type >= FIRST_VAR && type <= LAST_VAR) {
                law.write(Law.GIVEN, type - FIRST_VAR);
                return step(type);
            }
            if (type != '(') {
                return fail(FAULT_SYNTAX);
            }
            if (depth >= MOST_BRACKETS) {
                return fail(FAULT_ROOM);
            }
            return step('(') && sum(depth + 1) && step(')');
        }

        private boolean step(int wanted) {
            if (type != wanted) {
                return fail(FAULT_SYNTAX);
            }
            if (next >= MOST_TOKENS) {
                return fail(FAULT_ROOM);
            }
            next++;
            type = tape.typeAt(next);
            return true;
        }

        private boolean fail(int what) {
            fault = what;
            return false;
        }
    }

    /** Tells a text, in which SYNTAX and ROOM are right, or finds its first other fault. */
    private static final class Teller {
        final Grammar grammar = new Grammar();
        private final Tape tape = grammar.tape;
        // What was told ahead stays beside it, for a text with a fault changes nothing.
        final Text draft = new Text();
        private int fault;
        int faultToken;

        int tellAll() {
            draft.clear();
            draft.law.become(grammar.law);
            fault = 0;
            faultToken = NONE;
            for (int i = 0; i < tape.tokens && fault == 0; i++) {
                tell(i);
            }
            return fault;
        }

        /** The words that are looked for begin what is told, and stand nowhere else. */
        private void tell(int first) {
            switch (tape.typeAt(first)) {
                case SOCK: tellSock(first); break;
                case GLOVE: tellGlove(first); break;
                case LIKE: tellLike(first); break;
                case NEAR: draft.near = number(first + 1, 0, MOST_UNLIKE); break;
                case TABLE: draft.room = number(first + 1, 1, MOST_THINGS); break;
                case FULL: draft.full = tape.typeAt(first + 1) - BACK_WORD; break;
                case LINE: tellLine(first + 1); break;
                case SEED: draft.seed = tape.intAt(first + 1); break;
                default: break;
            }
        }

        private void tellSock(int first) {
            newName(first + 1);
            int many = number(first + 2, 0, MOST_OF_KIND);
            if (total(draft.number) + many > MOST_THINGS) {
                fail(FAULT_WRONG, first + 2);
            }
            draft.addKind(many, draft.kinds);
            draft.addName(tape.valueAt(first + 1), draft.kinds - 1);
        }

        private void tellGlove(int first) {
            newName(first + 1);
            int left = number(first + 2, 0, MOST_OF_KIND);
            int right = number(first + 3, 0, MOST_OF_KIND);
            if (total(draft.number) + left + right > MOST_THINGS) {
                fail(FAULT_WRONG, first + 3);
            }
            draft.addKind(left, draft.kinds + 1);
            draft.addKind(right, draft.kinds - 1);
            draft.addName(tape.valueAt(first + 1), draft.kinds - 2);
        }

        private void tellLike(int first) {
            int one = oldName(first + 1);
            int other = oldName(first + 2);
            int much = number(first + 3, 0, MOST_UNLIKE);
            if (fault == 0) {
                draft.tellUnlike(one, other, much);
            }
        }

        private void tellLine(int first) {
            draft.takeLineAway();
            for (int i = first; i < tape.tokens && fault == 0 && tape.typeAt(i) != ';'; i++) {
                if (tape.typeAt(i) == NAME) {
                    hang(i, tape.typeAt(i - 1) == RIGHT);
                }
            }
        }

        private void hang(int token, boolean right) {
            int name = oldName(token);
            if (name == NONE) {
                return;
            }
            int kind = at(draft.firstKind, name);
            int partner = at(draft.partner, kind);
            if (right && partner == kind || !draft.hang(right ? partner : kind)) {
                fail(FAULT_WRONG, token);
            }
        }

        private void newName(int token) {
            if (draft.find(tape.valueAt(token)) != NONE) {
                fail(FAULT_TWICE, token);
            }
        }

        private int oldName(int token) {
            int name = draft.find(tape.valueAt(token));
            if (name == NONE) {
                fail(FAULT_NAME, token);
            }
            return name;
        }

        private int number(int token, int least, int greatest) {
            int value = tape.intAt(token);
            if (value < least || value > greatest) {
                fail(FAULT_WRONG, token);
            }
            return value;
        }

        /** The first fault stays: what is looked at later stands further on in the text. */
        private void fail(int what, int token) {
            if (fault == 0) {
                fault = what;
                faultToken = token;
            }
        }
    }

    /** What was told. A kind that was not told has no things. */
    private static final class Text {
        int kinds;
        int names;
        final int[] number = new int[MOST_KINDS];
        final int[] partner = new int[MOST_KINDS];
        final int[] nameOf = new int[MOST_KINDS];
        // These two, and what hangs of which kind, are for the telling alone.
        private final long[] codes = new long[MOST_KINDS];
        final int[] firstKind = new int[MOST_KINDS];
        private final int[] unlikeRows = new int[MOST_KINDS * MOST_KINDS];
        int near;
        int room;
        int full;
        int seed;
        private final int[] hung = new int[MOST_THINGS];
        int hungCount;
        private final int[] hungOf = new int[MOST_KINDS];
        private final int[] out = new int[MOST_KINDS];
        final Law law = new Law();

        Text() {
            clear();
        }

        void clear() {
            kinds = 0;
            names = 0;
            for (int i = 0; i < MOST_KINDS; i++) {
                number[i] = 0;
                partner[i] = i;
                nameOf[i] = 0;
                for (int j = 0; j < MOST_KINDS; j++) {
                    put(unlikeRows, i * MOST_KINDS + j, i == j ? 0 : NOT_LIKE);
                }
            }
            near = 0;
            room = MOST_THINGS;
            full = STOP;
            seed = 0;
            takeLineAway();
            law.clear();
        }

        void become(Text other) {
            kinds = other.kinds;
            names = other.names;
            copyRow(other.number, number);
            copyRow(other.partner, partner);
            copyRow(other.nameOf, nameOf);
            copyRow(other.unlikeRows, unlikeRows);
            near = other.near;
            room = other.room;
            full = other.full;
            seed = other.seed;
            copyRow(other.hung, hung);
            hungCount = other.hungCount;
            law.become(other.law);
        }

        int find(long code) {
            for (int i = 0; i < names && i < codes.length; i++) {
                if (codes[i] == code) {
                    return i;
                }
            }
            return NONE;
        }

        void addKind(int many, int itsPartner) {
            put(number, kinds, many);
            put(partner, kinds, itsPartner);
            put(nameOf, kinds, names);
            kinds++;
        }

        void addName(long code, int kind) {
            if (names >= 0 && names < codes.length) {
                codes[names] = code;
                put(firstKind, names, kind);
                names++;
            }
        }

        int unlikeness(int a, int b) {
            return at(unlikeRows, a * MOST_KINDS + b);
        }

        void tellUnlike(int a, int b, int much) {
            put(unlikeRows, a * MOST_KINDS + b, much);
            put(unlikeRows, b * MOST_KINDS + a, much);
        }

        void takeLineAway() {
            hungCount = 0;
            for (int i = 0; i < hungOf.length; i++) {
                hungOf[i] = 0;
            }
        }

        boolean hang(int kind) {
            if (at(hungOf, kind) >= at(number, kind)) {
                return false;
            }
            add(hungOf, kind, 1);
            put(hung, hungCount, kind);
            hungCount++;
            return true;
        }

        /** How many lie out at most if these two places of the line are exchanged. */
        int mostOut(int one, int other) {
            for (int i = 0; i < out.length; i++) {
                out[i] = 0;
            }
            int lying = 0;
            int most = 0;
            for (int i = hungCount - 1; i >= 0; i--) {
                int kind = at(hung, i == one ? other : i == other ? one : i);
                int itsPartner = at(partner, kind);
                if (at(out, itsPartner) > 0) {
                    add(out, itsPartner, -1);
                    lying--;
                } else {
                    add(out, kind, 1);
                    lying++;
                }
                most = Math.max(most, lying);
            }
            return most;
        }
    }

    /** The law of LOSE: what is to be done one by one, values first, then what joins them. */
    private static final class Law {
        static final int GIVEN = 1;
        static final int UNLESS_LESS = 4;
        static final int DONE = 5;

        private final int[] does = new int[MOST_TOKENS + 2];
        private final int[] with = new int[MOST_TOKENS + 2];
        private int length;
        // Two values wait at most in each of seven brackets, and the first one of a test.
        private final int[] waiting = new int[4 * MOST_BRACKETS];

        void clear() {
            length = 0;
        }

        void become(Law other) {
            copyRow(other.does, does);
            copyRow(other.with, with);
            length = other.length;
        }

        int write(int what, int with) {
            put(does, length, what);
            put(this.with, length, with);
            length++;
            return length - 1;
        }

        /** A test that doesn't hold goes on with what is written next. */
        void aim(int test) {
            put(with, test, length);
        }

        int value(int[] given) {
            int top = -1;
            int from = 0;
            for (int i = 0; i < length && i < does.length; i++) {
                if (i < from) {
                    continue;
                }
                int what = does[i];
                int last = at(waiting, top);
                int before = at(waiting, top - 1);
                if (what == DONE) {
                    return last;
                }
                if (what == INT || what == GIVEN) {
                    top++;
                    put(waiting, top, what == INT ? at(with, i) : at(given, at(with, i)));
                } else if (what == UNLESS_LESS) {
                    top -= 2;
                    from = before < last ? from : at(with, i);
                } else if (what == '/' && last == 0) {
                    return 0;
                } else {
                    top--;
                    put(waiting, top, joined(what, before, last));
                }
            }
            return 0;
        }

        private static int joined(int sign, int a, int b) {
            switch (sign) {
                case '+': return a + b;
                case '-': return a - b;
                case '*': return a * b;
                default: return b == 0 ? 0 : a / b;
            }
        }
    }

    /** BAG, TABLE, what is rolled (told at the first of both kinds), how many draws. */
    private static final class State {
        final int[] bag = new int[MOST_KINDS];
        final int[] table = new int[MOST_KINDS];
        final int[] rolled = new int[MOST_KINDS];
        int draws;
        boolean stopped;

        void begin(Text text) {
            copyRow(text.number, bag);
            for (int i = 0; i < MOST_KINDS; i++) {
                table[i] = 0;
                rolled[i] = 0;
            }
            draws = 0;
            stopped = false;
        }

        void become(State other) {
            copyRow(other.bag, bag);
            copyRow(other.table, table);
            copyRow(other.rolled, rolled);
            draws = other.draws;
            stopped = other.stopped;
        }

        int drawOne(Text text, int kind, int full) {
            int partner = at(text.partner, kind);
            add(bag, kind, -1);
            draws++;
            if (at(table, partner) > 0) {
                add(table, partner, -1);
                add(rolled, Math.min(kind, partner), 1);
                return ROLLED;
            }
            if (total(table) < text.room) {
                add(table, kind, 1);
                return LIES;
            }
            if (full == FEW || full == MANY) {
                int other = goingBack(text, full);
                add(table, other, -1);
                add(bag, other, 1);
                add(table, kind, 1);
            } else {
                add(bag, kind, 1);
                stopped = full == STOP;
            }
            return WAS_FULL;
        }

        private int goingBack(Text text, int full) {
            int best = NONE;
            int bestMany = 0;
            for (int i = 0; i < MOST_KINDS; i++) {
                int many = at(bag, at(text.partner, i));
                boolean better = full == FEW ? many < bestMany : many > bestMany;
                if (table[i] > 0 && (best == NONE || better)) {
                    best = i;
                    bestMany = many;
                }
            }
            return best;
        }

        void takeAway(int kind) {
            add(table, kind, -1);
            add(bag, kind, 1);
            stopped = false;
        }

        /** The kind that the lot tells for the next draw. */
        int pick(int seed) {
            int rest = chance(total(bag), seed, draws);
            for (int i = 0; i < MOST_KINDS; i++) {
                if (rest < bag[i]) {
                    return i;
                }
                rest -= bag[i];
            }
            return NONE;
        }

        int playOut(Text text, int seed, int full, int most) {
            int drawn = 0;
            while (drawn < most && !stopped && total(bag) > 0) {
                drawOne(text, pick(seed), full);
                drawn++;
            }
            return drawn;
        }
    }

    /** All rows of so many of each kind, none above its most, one by one in their order. */
    private static final class Grid {
        // 18 things in 8 kinds have no more such rows: six kinds of two and two of three.
        static final int MOST_CELLS = 11664;

        private final int[] most = new int[MOST_KINDS];
        final int[] stride = new int[MOST_KINDS];
        final int[] digit = new int[MOST_KINDS];
        int cells;

        void begin(int[] numbers) {
            int many = 1;
            for (int i = 0; i < MOST_KINDS; i++) {
                most[i] = at(numbers, i);
                digit[i] = 0;
                stride[i] = many;
                many *= most[i] + 1;
            }
            cells = Math.min(many, MOST_CELLS);
        }

        void step() {
            int i = 0;
            while (i < MOST_KINDS && digit[i] >= most[i]) {
                digit[i] = 0;
                i++;
            }
            if (i < MOST_KINDS) {
                digit[i]++;
            }
        }
    }

    /** What would be over all orders in which the bag can be drawn, with a table large enough. */
    private static final class Orders {
        private static final int UNKNOWN = -1;

        private final int[] bag = new int[MOST_KINDS];
        private final int[] table = new int[MOST_KINDS];
        private final int[] partner = new int[MOST_KINDS];
        private int things;
        private final Grid grid = new Grid();
        private final long[] ways = new long[Grid.MOST_CELLS];
        private final long[] known = new long[MOST_THINGS + 1];

        Orders() {
            forgetCounts();
        }

        /** What was counted is kept, for it is dear, as long as bag and table stay the same. */
        void look(State now, Text text) {
            boolean same = sameRow(bag, now.bag) && sameRow(table, now.table) && sameRow(partner, text.partner);
            if (same) {
                return;
            }
            copyRow(now.bag, bag);
            copyRow(now.table, table);
            copyRow(text.partner, partner);
            things = total(bag);
            forgetCounts();
        }

        private void forgetCounts() {
            for (int i = 0; i < known.length; i++) {
                known[i] = UNKNOWN;
            }
        }

        long withinCount(int most) {
            if (most < 0 || most >= known.length) {
                return 0;
            }
            if (known[most] == UNKNOWN) {
                known[most] = countWithin(most);
            }
            return known[most];
        }

        long sumOfMosts() {
            long all = factorial(things);
            long sum = 0;
            for (int i = 0; i <= MOST_THINGS; i++) {
                long kept = withinCount(i);
                if (kept == all) {
                    break;
                }
                sum += all - kept;
            }
            return sum;
        }

        int leastSure(int a, int b) {
            long due = a * factorial(things);
            for (int i = 0; i <= MOST_THINGS; i++) {
                if (due == 0 || withinCount(i) * b >= due) {
                    return i;
                }
            }
            return NONE;
        }

        long lyingAfter(int k) {
            long sum = 0;
            for (int i = 0; i < MOST_KINDS; i++) {
                sum += i <= partner[i] ? choicesLying(i, partner[i], k) : 0;
            }
            return sum * factorial(k) * factorial(things - k);
        }

        /** Over all choices of k things, how many of this kind and its partner lie out. */
        private long choicesLying(int kind, int other, int k) {
            int lefts = at(bag, kind);
            int rights = kind == other ? 0 : at(bag, other);
            long sum = 0;
            for (int l = 0; l <= lefts; l++) {
                for (int r = 0; r <= rights; r++) {
                    long rest = choose(things - lefts - rights, k - l - r);
                    sum += choose(lefts, l) * choose(rights, r) * rest * lyingOf(kind, other, l, r);
                }
            }
            return sum;
        }

        private int lyingOf(int kind, int other, int drawn, int otherDrawn) {
            int many = at(table, kind) + drawn;
            return kind == other ? many & 1 : Math.abs(many - at(table, other) - otherDrawn);
        }

        private long countWithin(int most) {
            grid.begin(bag);
            ways[0] = 1;
            for (int i = 1; i < grid.cells && i < ways.length; i++) {
                grid.step();
                ways[i] = lyingNow() > most ? 0 : waysTo(i);
            }
            return longAt(ways, grid.cells - 1);
        }

        private int lyingNow() {
            int sum = 0;
            for (int i = 0; i < MOST_KINDS; i++) {
                int other = partner[i];
                sum += i <= other ? lyingOf(i, other, grid.digit[i], at(grid.digit, other)) : 0;
            }
            return sum;
        }

        private long waysTo(int cell) {
            long sum = 0;
            for (int i = 0; i < MOST_KINDS; i++) {
                int drawn = grid.digit[i];
                if (drawn > 0) {
                    sum += longAt(ways, cell - grid.stride[i]) * (bag[i] - drawn + 1);
                }
            }
            return sum;
        }
    }

    /** Odd ones paired: the most pairs, of these the least unlike. */
    private static final class Odds {
        // A pair is worth more than all that the unlikeness of nine pairs can take.
        private static final int PAIR = 10000;
        // On a table lies one of a sock's kind at most, and of a glove one side alone: there are no more rows of
        // 18 such things in 8 kinds, those of four socks and two gloves with seven each.
        private static final int MOST_ROWS = 1024;

        private final Grid grid = new Grid();
        private final int[] worth = new int[MOST_ROWS];
        int pairs;
        int sum;

        void pairUp(int[] table, Text text) {
            grid.begin(table);
            worth[0] = 0;
            for (int i = 1; i < grid.cells && i < worth.length; i++) {
                grid.step();
                worth[i] = bestWorth(i, text);
            }
            int best = at(worth, grid.cells - 1);
            pairs = (best + PAIR - 1) / PAIR;
            sum = pairs * PAIR - best;
        }

        /** The first thing of those that lie there stays alone, or goes with one of the others. */
        private int bestWorth(int cell, Text text) {
            int first = 0;
            while (first < MOST_KINDS - 1 && grid.digit[first] == 0) {
                first++;
            }
            int rest = cell - at(grid.stride, first);
            int best = at(worth, rest);
            for (int i = first; i < MOST_KINDS; i++) {
                int there = grid.digit[i] - (i == first ? 1 : 0);
                if (there > 0 && canPair(text, first, i)) {
                    int value = at(worth, rest - grid.stride[i]) + PAIR - unlikeKinds(text, first, i);
                    best = Math.max(best, value);
                }
            }
            return best;
        }

        private static boolean canPair(Text text, int a, int b) {
            return sideOf(text, a) + sideOf(text, b) == 0 && unlikeKinds(text, a, b) <= text.near;
        }

        /** 0 of a sock, -1 of a left one, 1 of a right one. */
        private static int sideOf(Text text, int kind) {
            return Integer.compare(kind, at(text.partner, kind));
        }

        private static int unlikeKinds(Text text, int a, int b) {
            return text.unlikeness(at(text.nameOf, a), at(text.nameOf, b));
        }
    }

    /** Losses in whole ways, and years by lot. */
    private static final class Losses {
        private long[] ways = new long[MOST_THINGS + 1];
        private long[] nextWays = new long[MOST_THINGS + 1];

        private final int[] left = new int[MOST_KINDS];
        private final boolean[] gone = new boolean[MOST_THINGS];
        private final int[] given = new int[VARS];
        private int weeks;
        int firstLost = NONE;
        final int[] leftAfter = new int[MOST_WEEKS];
        final int[] pairsAfter = new int[MOST_WEEKS];

        long waysWithout(State now, Text text, int without, int a, int b) {
            for (int i = 0; i < ways.length; i++) {
                ways[i] = i == 0 ? 1 : 0;
            }
            for (int i = 0; i < MOST_KINDS; i++) {
                int other = at(text.partner, i);
                int there = now.bag[i] + now.table[i];
                if (i <= other) {
                    joinKinds(there, i == other ? NONE : at(now.bag, other) + at(now.table, other), a, b);
                }
            }
            return longAt(ways, without);
        }

        /** So many of a kind, and of its partner (NONE: it is a sock's), come to those counted. */
        private void joinKinds(int there, int others, int a, int b) {
            for (int i = 0; i < nextWays.length; i++) {
                nextWays[i] = 0;
            }
            for (int l = 0; l <= there; l++) {
                for (int r = 0; r <= Math.max(0, others); r++) {
                    long many = waysLeft(there, l, a, b) * waysLeft(Math.max(0, others), r, a, b);
                    addShifted(others == NONE ? l & 1 : Math.abs(l - r), many);
                }
            }
            long[] old = ways;
            ways = nextWays;
            nextWays = old;
        }

        private void addShifted(int without, long many) {
            for (int i = 0; i < nextWays.length; i++) {
                nextWays[i] += longAt(ways, i - without) * many;
            }
        }

        private static long waysLeft(int there, int left, int a, int b) {
            return choose(there, left) * power(b - a, left) * power(a, there - left);
        }

        void begin(Text text) {
            copyRow(text.number, left);
            for (int i = 0; i < gone.length; i++) {
                gone[i] = false;
            }
            weeks = 0;
            firstLost = NONE;
        }

        /** Weeks that were lived once are kept: they depend on the text alone. */
        void liveUntil(Text text, int n) {
            for (int i = weeks; i < n && i < MOST_WEEKS; i++) {
                liveWeek(text, i);
                leftAfter[i] = total(left);
                pairsAfter[i] = pairsLeft(text);
            }
            weeks = Math.max(weeks, n);
        }

        private void liveWeek(Text text, int week) {
            int thing = 0;
            for (int i = 0; i < MOST_KINDS; i++) {
                int last = thing + text.number[i];
                while (thing < last && thing < gone.length) {
                    if (isLost(text, week, i, thing)) {
                        gone[thing] = true;
                        left[i]--;
                        firstLost = firstLost == NONE ? week : firstLost;
                    }
                    thing++;
                }
            }
        }

        private boolean isLost(Text text, int week, int kind, int thing) {
            if (thing < 0 || thing >= gone.length || gone[thing]) {
                return false;
            }
            int which = 20 * week + thing;
            put(given, 0, week);
            put(given, 1, kind);
            put(given, 2, at(left, kind));
            put(given, 3, total(left));
            put(given, 4, chance(100, text.seed, which));
            return chance(1000, text.seed, which) < text.law.value(given);
        }

        private int pairsLeft(Text text) {
            int pairs = 0;
            for (int i = 0; i < MOST_KINDS; i++) {
                int other = at(text.partner, i);
                if (i == other) {
                    pairs += left[i] / 2;
                } else if (i < other) {
                    pairs += Math.min(left[i], at(left, other));
                }
            }
            return pairs;
        }
    }

    /** What was seen on the table, and what may have been drawn then. */
    private static final class Seen {
        private static final int MOST_SEEN = 20;

        private final int[] kindOf = new int[MOST_SEEN];
        private final int[] manyOf = new int[MOST_SEEN];
        int count;
        private long[] ways = new long[MOST_THINGS + 1];
        private long[] nextWays = new long[MOST_THINGS + 1];

        int note(int kind, int many) {
            if (count < 0 || count >= MOST_SEEN) {
                return NONE;
            }
            kindOf[count] = kind;
            manyOf[count] = many;
            count++;
            return count - 1;
        }

        /** How many rows there are in which so many of the kind were drawn (NONE: however many). */
        long countRows(Text text, int k, int n, int kind, int many) {
            for (int i = 0; i < ways.length; i++) {
                ways[i] = i == 0 ? 1 : 0;
            }
            for (int i = 0; i < MOST_KINDS; i++) {
                if (i <= text.partner[i]) {
                    joinKinds(text, k, i, kind, many);
                }
            }
            return longAt(ways, n);
        }

        private void joinKinds(Text text, int k, int first, int kind, int many) {
            int other = at(text.partner, first);
            int others = other == first ? 0 : at(text.number, other);
            for (int i = 0; i < nextWays.length; i++) {
                nextWays[i] = 0;
            }
            for (int l = 0; l <= at(text.number, first); l++) {
                for (int r = 0; r <= others; r++) {
                    boolean asked = kind == first ? l == many : kind != other || r == many;
                    int out = other == first ? l & 1 : l - r;
                    if (asked && fits(k, first, out) && (other == first || fits(k, other, -out))) {
                        addShifted(l + r);
                    }
                }
            }
            long[] old = ways;
            ways = nextWays;
            nextWays = old;
        }

        private boolean fits(int k, int kind, int out) {
            for (int i = 0; i < k && i < MOST_SEEN; i++) {
                if (kindOf[i] == kind && manyOf[i] != Math.max(0, out)) {
                    return false;
                }
            }
            return true;
        }

        private void addShifted(int drawn) {
            for (int i = 0; i < nextWays.length; i++) {
                nextWays[i] += longAt(ways, i - drawn);
            }
        }
    }
}
