import java.util.Arrays;

/**
 * A house for rewriting: a text on a tape becomes a module of sorts, operators, equations and rules,
 * or a term; terms are matched, brought to rest, led from state to state, and a module is judged ahead.
 */
public final class RewriteHouse {

    public static final int BAD = -1, NONE = -2, FULL = -3, DOUBT = -4;

    private static final int MOST_HANDLES = 200;
    private static final int TIDY_ABOVE = 4000;

    private final Words words = new Words();
    private final Syntax syntax = new Syntax(words);
    private final Theory theory = new Theory();
    private final Terms terms = new Terms(theory);
    private final Language language = new Language(syntax, theory, terms);
    private final Counts counts = new Counts(theory, terms);
    private final Matcher matcher = new Matcher(theory, terms, counts);
    private final Runner runner = new Runner(theory, terms, matcher, counts);
    private final Ways ways = new Ways(syntax, theory, terms, runner);
    private final Judge judge = new Judge(theory, terms);
    private final Pairs pairing = new Pairs(theory, terms, runner, counts);
    private final int[] handles = new int[MOST_HANDLES];
    private Results results = new Results();
    private Results draft = new Results();
    private int handleCount;
    private int latestStop;
    private int latestSteps;
    private int faultPlace = NONE;
    private int faultLine = NONE;

    public RewriteHouse() {
    }

    // ---- texts

    public int feed(int a, int b, int c, int d, int e) {
        if (words.length + 20 > Words.MOST_BYTES) {
            return FULL;
        }
        words.append(a);
        words.append(b);
        words.append(c);
        words.append(d);
        words.append(e);
        return words.length;
    }

    public int end(int n) {
        if (n < 0 || n > 20 || words.length < 20) {
            return BAD;
        }
        words.length += n - 20;
        return words.length;
    }

    public int module() {
        handleCount = 0;
        results.clear();
        latestStop = 0;
        judge.restart();
        pairing.restart();
        language.forgetPrinted();
        language.clear();
        boolean good = syntax.readModule() && language.load();
        if (!good) {
            language.clear();
        }
        keepFault(good);
        words.length = 0;
        return good ? theory.operators : -10 - syntax.faultCode;
    }

    public int fault(int what) {
        if (what == 0) {
            return faultPlace;
        }
        return what == 1 ? faultLine : BAD;
    }

    public int count(int what) {
        switch (what) {
            case 0: return theory.sorts;
            case 1: return theory.kinds;
            case 2: return theory.operators;
            case 3: return theory.rows;
            case 4: return theory.variables;
            case 5: return theory.equations;
            case 6: return theory.rules;
            case 7: return handleCount;
            case 8: return results.size;
            case 9: return latestStop;
            case 10: return latestSteps;
            default: return BAD;
        }
    }

    // ---- terms

    public int term() {
        tidy();
        int found = language.readTape();
        boolean good = found >= 0 || syntax.faultCode == Language.DOUBTFUL;
        keepFault(good);
        words.length = 0;
        if (!good) {
            return -10 - syntax.faultCode;
        }
        return found < 0 ? DOUBT : newHandle(found);
    }

    public int about(int h, int what) {
        if (!isHandle(h)) {
            return BAD;
        }
        int term = handles[h];
        boolean variable = terms.isVariable(term);
        switch (what) {
            case 0: return terms.sizeOf(term);
            case 1: return orNone(terms.leastOf(term));
            case 2: return variable ? NONE : terms.operatorOf(term);
            case 3: return variable ? terms.head[term] : NONE;
            case 4: return terms.rowSize(term);
            case 5: return terms.kindOf(term);
            default: return BAD;
        }
    }

    public int part(int h, int i) {
        if (!isHandle(h) || i < 0 || i >= terms.rowSize(handles[h])) {
            return BAD;
        }
        return newHandle(terms.rowAt(handles[h], i));
    }

    public int order(int h, int k) {
        return isHandle(h) && isHandle(k) ? terms.compare(handles[h], handles[k]) : -9;
    }

    public int print(int h, int i) {
        if (!isHandle(h) || i < -1) {
            return BAD;
        }
        language.show(handles[h]);
        if (i < 0) {
            return language.printedSize;
        }
        return i < language.printedSize ? language.printed[i] : BAD;
    }

    public int forget() {
        int had = handleCount;
        handleCount = 0;
        return had;
    }

    // ---- sorts and operators

    public int below(int s, int t) {
        if (!isSort(s) || !isSort(t)) {
            return BAD;
        }
        return theory.isBelow(s, t) ? 1 : 0;
    }

    public int kind(int s) {
        return isSort(s) ? theory.kindOf[s] : BAD;
    }

    public int operator(int o, int what) {
        if (o < 0 || o >= theory.operators) {
            return BAD;
        }
        switch (what) {
            case 0: return theory.holes(o);
            case 1: return theory.strength(o);
            case 2: return theory.isAssoc(o) ? 1 : 0;
            case 3: return theory.isComm(o) ? 1 : 0;
            case 4: return orNone(theory.unit(o));
            case 5: return theory.field(o, Theory.ROW_COUNT);
            case 6: return theory.kindOfOperator(o);
            default: return BAD;
        }
    }

    // ---- matching, running

    public int match(int p, int t, boolean within) {
        if (!isHandle(p) || !isHandle(t)) {
            return BAD;
        }
        begin();
        int pattern = handles[p];
        int term = handles[t];
        if (terms.kindOf(pattern) != terms.kindOf(term)) {
            return BAD;
        }
        int found = matcher.list(pattern, term, within, 0L, runner.values, 0);
        if (found < 0) {
            return stopped();
        }
        results.keepMatchers(terms.vars[pattern], found, matcher.rows);
        return found;
    }

    public int bound(int i, int v) {
        if (results.kind != Results.MATCHERS || i < 0 || i >= results.size || v < -2 || v > 59) {
            return BAD;
        }
        int term = results.boundTo(i, v);
        return term < 0 ? NONE : newHandle(term);
    }

    public int reduce(int h) {
        if (handleCount >= MOST_HANDLES) {
            return FULL;
        }
        if (!isHandle(h)) {
            return BAD;
        }
        begin();
        int term = runner.restFrom(handles[h], 0);
        latestSteps = counts.steps;
        return term < 0 ? stopped() : newHandle(term);
    }

    public int steps(int h) {
        if (!isHandle(h)) {
            return BAD;
        }
        begin();
        int term = runner.restFrom(handles[h], 0);
        boolean done = term >= 0 && ways.listSteps(term, Runner.ANY_LABEL);
        latestSteps = counts.steps;
        if (!done) {
            return stopped();
        }
        results.keepSteps(ways.stepTerm, ways.stepRule, ways.stepCount);
        return results.size;
    }

    public int result(int i) {
        if (results.kind == Results.MATCHERS || i < 0 || i >= results.size) {
            return BAD;
        }
        return newHandle(results.term[i]);
    }

    public int way(int i, int what) {
        if (i < 0 || i >= results.size) {
            return BAD;
        }
        if (results.kind == Results.STEPS) {
            return what == 0 ? results.rule[i] : BAD;
        }
        if (results.kind != Results.STATES) {
            return BAD;
        }
        switch (what) {
            case 0: return orNone(results.from[i]);
            case 1: return orNone(results.rule[i]);
            case 2: return results.far[i];
            case 3: return results.edgeAt[i + 1] - results.edgeAt[i];
            default: return BAD;
        }
    }

    public int states(int h) {
        if (!isHandle(h)) {
            return BAD;
        }
        begin();
        int term = runner.restFrom(handles[h], 0);
        draft.openStates(term);
        for (int k = 0; k < Results.MOST_STATES && k < draft.size && counts.stop == 0; k++) {
            if (ways.listSteps(draft.term[k], Runner.ANY_LABEL) && !draft.addSteps(k, ways.stepTerm, ways.stepRule, ways.stepCount)) {
                counts.halt(2);
            }
        }
        latestSteps = counts.steps;
        return counts.stop == 0 ? keepDraft() : stopped();
    }

    public int search(int p, int i) {
        if (!isHandle(p) || results.kind != Results.STATES || i < 0 || i >= results.size) {
            return BAD;
        }
        begin();
        int found = ways.markStates(results, handles[p], i, false, results.isFirst);
        if (found < 0) {
            return stopped();
        }
        return found < results.size ? found : NONE;
    }

    public int law(int kind, int p, int q) {
        if (kind < 0 || kind > 3 || !isHandle(p) || (kind == 3 && !isHandle(q)) || results.kind != Results.STATES) {
            return BAD;
        }
        begin();
        int done = ways.markStates(results, handles[p], 0, true, results.isFirst);
        if (done >= 0 && kind == 3) {
            done = ways.markStates(results, handles[q], 0, true, results.isSecond);
        }
        if (done < 0) {
            latestStop = counts.stop;
            return -1000 - latestStop;
        }
        int breaks = results.firstBreak(kind);
        return breaks < 0 ? 1 : -10 - breaks;
    }

    public int strategy(int h) {
        if (!isHandle(h)) {
            keepFault(true);
            return BAD;
        }
        int plan = ways.readPlan();
        keepFault(plan >= 0);
        words.length = 0;
        if (plan < 0) {
            return -10 - syntax.faultCode;
        }
        begin();
        int term = runner.restFrom(handles[h], 0);
        ways.listTop = 0;
        boolean done = term >= 0 && ways.answer(plan, term);
        latestSteps = counts.steps;
        if (!done) {
            return stopped();
        }
        results.keepTerms(Results.ANSWERS, ways.lists, ways.listTop);
        return results.size;
    }

    // ---- judged ahead

    public int check(int what) {
        if (what == 0) {
            return judge.leastFails() ? 0 : 1;
        }
        if (what == 1) {
            return judge.firstNotFalling() < 0 ? 1 : 0;
        }
        return BAD;
    }

    public int witness(int what, int i) {
        if (what < 0 || what > 1 || i < 0 || (what == 1 && i != 0)) {
            return BAD;
        }
        if (what == 1) {
            return orNone(judge.firstNotFalling());
        }
        if (!judge.leastFails()) {
            return NONE;
        }
        return i <= judge.witnessSorts ? judge.witness[i] : BAD;
    }

    public int pairs(int what) {
        if (what < 0 || what > 2) {
            return BAD;
        }
        if (!pairing.areLookedAt()) {
            return NONE;
        }
        tidy();
        pairing.judge(Pairs.JUDGE_ALL);
        if (pairing.stop != 0) {
            latestStop = pairing.stop;
            return -20 - latestStop;
        }
        return what == 0 ? pairing.pairCount : what == 1 ? pairing.apart : pairing.open;
    }

    public int pair(int i, int what) {
        if (i < 0 || what < 0 || what > 3 || !pairing.areLookedAt()) {
            return BAD;
        }
        tidy();
        pairing.judge(Pairs.JUDGE_ALL);
        if (pairing.stop != 0) {
            latestStop = pairing.stop;
            return -20 - latestStop;
        }
        if (i >= pairing.apart) {
            return BAD;
        }
        if (what < 2) {
            return pairing.equationOf(i, what);
        }
        if (handleCount >= MOST_HANDLES) {
            return FULL;
        }
        pairing.judge(pairing.pairAhead(i));
        return newHandle(what == 2 ? pairing.first : pairing.second);
    }

    // ---- what the calls share

    private boolean isHandle(int h) {
        return h >= 0 && h < handleCount;
    }

    private boolean isSort(int s) {
        return s >= 0 && s < theory.sorts;
    }

    private static int orNone(int number) {
        return number < 0 ? NONE : number;
    }

    private int newHandle(int term) {
        if (handleCount >= MOST_HANDLES) {
            return FULL;
        }
        if (term < 0) {
            return BAD;
        }
        handles[handleCount] = term;
        handleCount++;
        return handleCount - 1;
    }

    private void keepFault(boolean good) {
        faultPlace = good ? NONE : syntax.faultPlace;
        faultLine = good ? NONE : words.lineOf(syntax.faultPlace);
    }

    private int stopped() {
        latestStop = counts.stop;
        return -20 - latestStop;
    }

    private int keepDraft() {
        Results kept = draft;
        draft = results;
        results = kept;
        return results.size;
    }

    private void begin() {
        tidy();
        counts.begin(Counts.MOST_DEALS);
        runner.begin();
    }

    /** Terms that no handle, RESULT or statement needs any more make room, once there are many. */
    private void tidy() {
        if (terms.count <= TIDY_ABOVE) {
            return;
        }
        for (int h = 0; h < handleCount; h++) {
            terms.mark(handles[h]);
        }
        results.markTerms(terms);
        terms.sweep();
        for (int h = 0; h < handleCount; h++) {
            handles[h] = terms.moved(handles[h]);
        }
        results.moveTerms(terms);
        terms.hashAgain();
        language.forgetPrinted();
    }

    /** The tape, the words on it, and all words that the module knows, by number. */
    static final class Words {
        static final int MOST_BYTES = 6000, MOST = 900, LONGEST = 16;
        static final int UNKNOWN = -1;
        static final int DOT = 0, COLON = 1, ARROW = 2, EQUAL = 3, LEADS = 4, TAKES = 5, IF = 6, AND = 7;
        static final int OPEN = 8, CLOSE = 9, OPEN_LIST = 10, CLOSE_LIST = 11, COMMA = 14;
        static final int SORT = 15, SUBSORT = 16, VAR = 17, OP = 18, EQ = 19, OEQ = 20, RL = 21, LESS = 22;
        static final int ASSOC = 23, COMM = 24, ID = 25, PREC = 26, GATHER = 27;
        static final int LETTER_ALL = 28, LETTER_MOST = 29, LETTER_LESS = 30;
        static final int IDLE = 31, FAIL = 32, ALL = 33, NOT = 34, ONE = 35;
        static final int OR = 36, THEN = 37, STAR = 38, BANG = 39;
        /** The words with the numbers above, in their order. */
        private static final String GIVEN = ". : -> = => := if /\\ ( ) [ ] { } , sort subsort var op eq oeq rl < assoc comm id prec gather & e E idle fail all not one | ; * !";
        private static final int MOST_NAMES = 1800, MOST_NAME_BYTES = 14000, CHAINS = 512;

        final byte[] tape = new byte[MOST_BYTES];
        int length;
        final int[] start = new int[MOST + 1];
        final int[] size = new int[MOST + 1];
        final int[] name = new int[MOST + 1];
        int count;
        int badWord = -1;
        int badPlace;
        final byte[] bytes = new byte[MOST_NAME_BYTES];
        final int[] nameAt = new int[MOST_NAMES + 1];
        private final int[] nextName = new int[MOST_NAMES];
        private final int[] chains = new int[CHAINS];
        private int names;
        private final byte[] given = new byte[GIVEN.length()];

        Words() {
            for (int k = 0; k < given.length; k++) {
                given[k] = (byte) GIVEN.charAt(k);
            }
            tellGiven();
        }

        void append(int number) {
            for (int shift = 24; shift >= 0 && length < MOST_BYTES; shift -= 8) {
                tape[length] = (byte) (number >> shift);
                length++;
            }
        }

        /** The line of a place; the first one is 1. */
        int lineOf(int place) {
            int line = 1;
            for (int k = 0; k < place && k < MOST_BYTES; k++) {
                if (tape[k] == 10) {
                    line++;
                }
            }
            return line;
        }

        /** Only the words of the language itself are known then. */
        void tellGiven() {
            names = 0;
            Arrays.fill(chains, -1);
            int from = 0;
            for (int k = 0; k <= given.length; k++) {
                if (k == given.length || given[k] == 32) {
                    nameOf(given, from, k - from, true);
                    from = k + 1;
                }
            }
        }

        /** The number of a word; one that is not known gets one, if it is to be added. */
        int nameOf(byte[] from, int at, int many, boolean add) {
            int sum = many;
            for (int k = 0; k < many; k++) {
                sum = sum * 31 + from[at + k];
            }
            int chain = sum & (CHAINS - 1);
            for (int n = chains[chain], k = 0; n >= 0 && k < MOST_NAMES; n = nextName[n], k++) {
                if (isSame(n, from, at, many)) {
                    return n;
                }
            }
            if (!add || names >= MOST_NAMES || nameAt[names] + many > MOST_NAME_BYTES) {
                return UNKNOWN;
            }
            int fresh = names;
            System.arraycopy(from, at, bytes, nameAt[fresh], many);
            nameAt[fresh + 1] = nameAt[fresh] + many;
            nextName[fresh] = chains[chain];
            chains[chain] = fresh;
            names++;
            return fresh;
        }

        private boolean isSame(int n, byte[] from, int at, int many) {
            if (nameAt[n + 1] - nameAt[n] != many) {
                return false;
            }
            for (int k = 0; k < many; k++) {
                if (bytes[nameAt[n] + k] != from[at + k]) {
                    return false;
                }
            }
            return true;
        }

        /** The words of the tape, up to the first one that is spoilt, or too many. */
        void split(boolean add) {
            count = 0;
            badWord = -1;
            int p = 0;
            for (int n = 0; n < MOST_BYTES && p < length && count <= MOST && badWord < 0; n++) {
                if (isBlank(tape[p])) {
                    p++;
                    continue;
                }
                int end = wordEnd(p);
                if (isRemark(p, end)) {
                    p = lineEnd(p);
                } else {
                    addWord(p, end, add);
                    p = end;
                }
            }
        }

        private void addWord(int from, int end, boolean add) {
            start[count] = from;
            size[count] = end - from;
            int bad = end - from > LONGEST ? from : badByte(from, end);
            if (bad >= 0) {
                badWord = count;
                badPlace = bad;
                name[count] = UNKNOWN;
            } else {
                name[count] = nameOf(tape, from, end - from, add);
            }
            count++;
        }

        private int badByte(int from, int end) {
            for (int p = from; p < end; p++) {
                if (tape[p] < 33 || tape[p] > 126) {
                    return p;
                }
            }
            return -1;
        }

        private int wordEnd(int from) {
            if (isSign(tape[from])) {
                return from + 1;
            }
            int end = from;
            for (int p = from; p < length && !isBlank(tape[p]) && !isSign(tape[p]); p++) {
                end = p + 1;
            }
            return end;
        }

        private int lineEnd(int from) {
            for (int p = from; p < length; p++) {
                if (tape[p] == 10) {
                    return p;
                }
            }
            return length;
        }

        private boolean isRemark(int from, int end) {
            return end - from >= 3 && tape[from] == '*' && tape[from + 1] == '*' && tape[from + 2] == '*';
        }

        private static boolean isBlank(int b) {
            return b == 32 || b == 10;
        }

        private static boolean isSign(int b) {
            return b == '(' || b == ')' || b == '[' || b == ']' || b == '{' || b == '}' || b == ',';
        }
    }

    /** Goes through the words of a text: where statements and their parts stand, and the text's fault. */
    static final class Syntax {
        static final int END = -2, SPOILT = -3;
        static final int LONGEST_ROW = 32, MOST_PARTS = 6;
        /** What a statement tells: its WORD, where that stands, and ranges of words behind it. */
        static final int FIELDS = 10, KIND = 0, FIRST = 1, FROM = 2, TO = 3, SORT_WORD = 4;
        static final int SORTS_FROM = 4, SORTS_TO = 5, RESULT = 6, LIST_FROM = 7, LIST_TO = 8;
        static final int RIGHT_FROM = 4, RIGHT_TO = 5, PART_FROM = 6, PART_TO = 7, LABEL = 8;
        /** What a part of C tells: the sign in it, T, and U (or the word of the SORT). */
        static final int PART_FIELDS = 5, SIGN = 0, T_FROM = 1, T_TO = 2, U_FROM = 3, U_TO = 4;
        private static final int MOST_STATEMENTS = 310, MOST_ALL_PARTS = 240;

        final Words words;
        int faultCode;
        int faultPlace;
        int statements;
        final int[] table = new int[MOST_STATEMENTS * FIELDS];
        final int[] parts = new int[MOST_ALL_PARTS * PART_FIELDS];
        private int at;
        /** The word there, or END, or SPOILT. */
        int word;
        private int limit;
        private int partCount;
        private int sorts;
        private int rows;
        private int variables;
        private int equations;
        private int rules;

        Syntax(Words words) {
            this.words = words;
        }

        /** The tape's words are gone through from the first one on. */
        void open(boolean add, int mostWords) {
            words.split(add);
            limit = mostWords;
            faultCode = 0;
            faultPlace = 0;
            at = -1;
            take();
        }

        /** A WORD that is not RESERVED, nor a bracket or comma. */
        boolean isPlain() {
            return word == Words.UNKNOWN || word > Words.COMMA;
        }

        private boolean isRowWord() {
            return word == Words.UNKNOWN || word > Words.AND;
        }

        boolean fail(int code, int place) {
            faultCode = code;
            faultPlace = place;
            return false;
        }

        boolean wrong() {
            faultCode = 1;
            faultPlace = at >= words.count ? words.length : at == words.badWord ? words.badPlace : words.start[at];
            return false;
        }

        /** On to the next word; false: this one is too many. */
        boolean take() {
            if (at >= limit) {
                faultCode = 2;
                faultPlace = at < words.count ? words.start[at] : words.length;
                return false;
            }
            at++;
            word = at >= words.count ? END : at == words.badWord ? SPOILT : words.name[at];
            return true;
        }

        private int placeHere() {
            return at < words.count ? words.start[at] : words.length;
        }

        boolean takeWord(int wanted) {
            return word == wanted ? take() : wrong();
        }

        private boolean takePlain() {
            return isPlain() ? take() : wrong();
        }

        /** A row of WORDS that a term can have: where it ends, or -1. */
        int takeRow() {
            int from = at;
            boolean good = true;
            for (int n = 0; n <= Words.MOST && good && isRowWord(); n++) {
                good = take();
            }
            if (at == from && good) {
                good = wrong();
            }
            if (at - from > LONGEST_ROW) {
                good = fail(2, words.start[from]);
            }
            return good ? at : -1;
        }

        /** A module's text. */
        boolean readModule() {
            open(true, Words.MOST);
            statements = 0;
            partCount = 0;
            sorts = 0;
            rows = 0;
            variables = 0;
            equations = 0;
            rules = 0;
            for (int n = 0; n <= Words.MOST && word != END; n++) {
                if (!readStatement()) {
                    return false;
                }
            }
            return true;
        }

        private boolean readStatement() {
            int kind = word;
            int s = statements * FIELDS;
            if (statements >= MOST_STATEMENTS || kind < Words.SORT || kind > Words.RL) {
                return wrong();
            }
            if (isTooMany(kind)) {
                return fail(2, placeHere());
            }
            table[s + KIND] = kind;
            table[s + FIRST] = at;
            if (!take()) {
                return false;
            }
            statements++;
            switch (kind) {
                case Words.SORT: return readNames(s, Words.SORT) && takeWord(Words.DOT);
                case Words.SUBSORT: return readSubsorts(s);
                case Words.VAR: return readVariables(s);
                case Words.OP: return readOperator(s);
                case Words.RL: return readLabel(s) && readSides(s, Words.LEADS);
                default: return readSides(s, Words.EQUAL);
            }
        }

        private boolean isTooMany(int kind) {
            switch (kind) {
                case Words.OP: rows++; return rows > Theory.MOST_ROWS;
                case Words.EQ:
                case Words.OEQ: equations++; return equations > Theory.MOST_EQUATIONS;
                case Words.RL: rules++; return rules > Theory.MOST_RULES;
                default: return false;
            }
        }

        private boolean readNames(int s, int kind) {
            table[s + FROM] = at;
            for (int n = 0; n <= Words.MOST && isPlain(); n++) {
                if (kind == Words.SORT) {
                    sorts++;
                } else {
                    variables++;
                }
                if (sorts > Theory.MOST_SORTS || variables > Theory.MOST_VARIABLES) {
                    return fail(2, placeHere());
                }
                if (!take()) {
                    return false;
                }
            }
            table[s + TO] = at;
            return at > table[s + FROM] || wrong();
        }

        private boolean readVariables(int s) {
            if (!readNames(s, Words.VAR) || !takeWord(Words.COLON)) {
                return false;
            }
            table[s + SORT_WORD] = at;
            return takePlain() && takeWord(Words.DOT);
        }

        private boolean readSubsorts(int s) {
            table[s + FROM] = at;
            boolean less = false;
            for (int n = 0; n <= Words.MOST; n++) {
                int from = at;
                for (int k = 0; k <= Words.MOST && isPlain() && word != Words.LESS; k++) {
                    if (!take()) {
                        return false;
                    }
                }
                if (at == from) {
                    return wrong();
                }
                if (less && word == Words.DOT) {
                    break;
                }
                if (!takeWord(Words.LESS)) {
                    return false;
                }
                less = true;
            }
            table[s + TO] = at;
            return takeWord(Words.DOT);
        }

        private boolean readOperator(int s) {
            table[s + FROM] = at;
            for (int n = 0; n <= Words.MOST && isRowWord(); n++) {
                if (!take()) {
                    return false;
                }
            }
            table[s + TO] = at;
            if (!takeWord(Words.COLON)) {
                return false;
            }
            table[s + SORTS_FROM] = at;
            for (int n = 0; n <= Words.MOST && isPlain(); n++) {
                if (!take()) {
                    return false;
                }
            }
            table[s + SORTS_TO] = at;
            if (!takeWord(Words.ARROW)) {
                return false;
            }
            table[s + RESULT] = at;
            if (!takePlain()) {
                return false;
            }
            table[s + LIST_FROM] = at;
            if (word == Words.OPEN_LIST && !readAttributes()) {
                return false;
            }
            table[s + LIST_TO] = at;
            return takeWord(Words.DOT);
        }

        private boolean readAttributes() {
            if (!take()) {
                return false;
            }
            for (int n = 0; n <= Words.MOST; n++) {
                int told = word;
                if (told == Words.CLOSE_LIST && n > 0) {
                    return take();
                }
                if (told < Words.ASSOC || told > Words.GATHER) {
                    return wrong();
                }
                if (!take() || !readAttribute(told)) {
                    return false;
                }
            }
            return wrong();
        }

        /** What stands behind the WORD of an ATTRIBUTE. */
        private boolean readAttribute(int told) {
            if (told == Words.ID) {
                return takePlain();
            }
            if (told == Words.PREC) {
                return word >= 0 && numberAt(at) >= 0 ? take() : wrong();
            }
            if (told == Words.GATHER) {
                for (int n = 0; n <= Words.MOST && word >= Words.LETTER_ALL && word <= Words.LETTER_LESS; n++) {
                    if (!take()) {
                        return false;
                    }
                }
            }
            return true;
        }

        /** The number that a word of one or two digits is, or -1. */
        int numberAt(int place) {
            int many = words.size[place];
            if (many > 2) {
                return -1;
            }
            int number = 0;
            for (int k = 0; k < many; k++) {
                int digit = words.tape[words.start[place] + k] - '0';
                if (digit < 0 || digit > 9) {
                    return -1;
                }
                number = number * 10 + digit;
            }
            return number;
        }

        private boolean readLabel(int s) {
            table[s + LABEL] = at;
            return takePlain() && takeWord(Words.COLON);
        }

        private boolean readSides(int s, int sign) {
            table[s + FROM] = at;
            table[s + TO] = takeRow();
            if (table[s + TO] < 0 || !takeWord(sign)) {
                return false;
            }
            table[s + RIGHT_FROM] = at;
            table[s + RIGHT_TO] = takeRow();
            if (table[s + RIGHT_TO] < 0) {
                return false;
            }
            table[s + PART_FROM] = partCount;
            if (word == Words.IF && !readParts()) {
                return false;
            }
            table[s + PART_TO] = partCount;
            return takeWord(Words.DOT);
        }

        private boolean readParts() {
            if (!take()) {
                return false;
            }
            for (int n = 0; n <= Words.MOST; n++) {
                if (!isRowWord()) {
                    return wrong();
                }
                if (n >= MOST_PARTS || partCount >= MOST_ALL_PARTS) {
                    return fail(2, placeHere());
                }
                if (!readPart(partCount * PART_FIELDS)) {
                    return false;
                }
                partCount++;
                if (word != Words.AND) {
                    return true;
                }
                if (!take()) {
                    return false;
                }
            }
            return true;
        }

        private boolean readPart(int p) {
            parts[p + T_FROM] = at;
            parts[p + T_TO] = takeRow();
            if (parts[p + T_TO] < 0) {
                return false;
            }
            int sign = word;
            parts[p + SIGN] = sign;
            if (sign != Words.EQUAL && sign != Words.TAKES && sign != Words.COLON) {
                return wrong();
            }
            if (!take()) {
                return false;
            }
            parts[p + U_FROM] = at;
            if (sign == Words.COLON) {
                return takePlain();
            }
            parts[p + U_TO] = takeRow();
            return parts[p + U_TO] >= 0;
        }
    }

    /** The module: its sorts, operators, variables, equations and rules. */
    static final class Theory {
        static final int MOST_SORTS = 20, MOST_ROWS = 50, MOST_VARIABLES = 30, MOST_EQUATIONS = 40, MOST_RULES = 30;
        static final int HOLE = -1, MOST_FORM = 12;
        /** What is known of an operator: HOLES have three LETTERS and KINDS each. */
        static final int HOLES = 0, STRENGTH = 1, FLAGS = 2, UNIT = 3, KIND = 4, FORM_SIZE = 5, FIRST_ROW = 6;
        static final int ROW_COUNT = 7, LETTERS = 8, HOLE_KINDS = 11, FIELDS = 14;
        static final int ASSOC = 1, COMM = 2;
        static final int TAKES_ALL = 0, TAKES_MOST = 1, TAKES_LESS = 2, HIGHEST = 99;
        static final int NO_LEAST = -1, NO_ROW = -2;
        /** What is known of a row of op: three SORTS, the SORT, the operator, its next row. */
        static final int RESULT = 3, OWNER = 4, NEXT_ROW = 5, ROW_FIELDS = 6;
        /** What is known of an equation or rule; rules stand behind all equations. */
        static final int LEFT = 0, RIGHT = 1, LABEL = 2, FIRST_PART = 3, PART_COUNT = 4, ORDINARY = 5, STATEMENT_FIELDS = 6;
        /** What is known of a part of C: its sign, T, U (or the sort), the variables that are known ahead of it. */
        static final int SIGN = 0, T = 1, U = 2, KNOWN = 3, PART_FIELDS = 4;
        private static final int MOST_PARTS = 240;

        int sorts;
        int kinds;
        int operators;
        int rows;
        int variables;
        int equations;
        int rules;
        int parts;
        final int[] sortName = new int[MOST_SORTS];
        final int[] above = new int[MOST_SORTS];
        final int[] kindOf = new int[MOST_SORTS];
        final int[] table = new int[MOST_ROWS * FIELDS];
        final int[] form = new int[MOST_ROWS * MOST_FORM];
        final int[] row = new int[MOST_ROWS * ROW_FIELDS];
        final int[] variableName = new int[MOST_VARIABLES];
        final int[] variableSort = new int[MOST_VARIABLES];
        final int[] statement = new int[(MOST_EQUATIONS + MOST_RULES) * STATEMENT_FIELDS];
        final int[] part = new int[MOST_PARTS * PART_FIELDS];
        /** The equations in the order in which they are tried. */
        final int[] tried = new int[MOST_EQUATIONS];

        void clear() {
            sorts = 0;
            kinds = 0;
            operators = 0;
            rows = 0;
            variables = 0;
            equations = 0;
            rules = 0;
            parts = 0;
        }

        // sorts

        int sortOf(int name) {
            for (int s = 0; s < sorts; s++) {
                if (sortName[s] == name) {
                    return s;
                }
            }
            return -1;
        }

        boolean addSort(int name) {
            if (sorts >= MOST_SORTS || sortOf(name) >= 0) {
                return false;
            }
            sortName[sorts] = name;
            above[sorts] = 1 << sorts;
            sorts++;
            return true;
        }

        /** Puts a sort below another one; false: that would make a ring. */
        boolean addBelow(int low, int high) {
            if (isBelow(high, low)) {
                return false;
            }
            if (isBelow(low, high)) {
                return true;
            }
            for (int s = 0; s < sorts; s++) {
                if (isBelow(s, low)) {
                    above[s] |= above[high];
                }
            }
            return true;
        }

        boolean isBelow(int s, int t) {
            return (above[s] >> t & 1) != 0;
        }

        void numberKinds() {
            kinds = 0;
            Arrays.fill(kindOf, -1);
            for (int s = 0; s < sorts; s++) {
                if (kindOf[s] < 0) {
                    tellKind(joinedWith(s));
                }
            }
        }

        private void tellKind(int mask) {
            for (int s = 0; s < sorts; s++) {
                if ((mask >> s & 1) != 0) {
                    kindOf[s] = kinds;
                }
            }
            kinds++;
        }

        private int joinedWith(int sort) {
            int mask = 1 << sort;
            for (int round = 0; round < sorts; round++) {
                for (int s = 0; s < sorts; s++) {
                    if ((above[s] & mask) != 0) {
                        mask |= above[s];
                    }
                }
            }
            return mask;
        }

        // operators

        int field(int op, int what) {
            return table[op * FIELDS + what];
        }

        int holes(int op) {
            return table[op * FIELDS + HOLES];
        }

        int strength(int op) {
            return table[op * FIELDS + STRENGTH];
        }

        boolean isAssoc(int op) {
            return (table[op * FIELDS + FLAGS] & ASSOC) != 0;
        }

        boolean isComm(int op) {
            return (table[op * FIELDS + FLAGS] & COMM) != 0;
        }

        /** The operator that is its id, or -1. */
        int unit(int op) {
            return table[op * FIELDS + UNIT];
        }

        int kindOfOperator(int op) {
            return table[op * FIELDS + KIND];
        }

        /**
         * The least sort of an operator over least sorts (below 0: none): of all rows that lie above them the one SORT
         * that is below all others; NO_ROW: there are no such rows, NO_LEAST: no such SORT.
         */
        int leastOver(int op, int a, int b, int c) {
            int holes = table[op * FIELDS + HOLES];
            if ((holes > 0 && a < 0) || (holes > 1 && b < 0) || (holes > 2 && c < 0)) {
                return NO_ROW;
            }
            boolean turned = (table[op * FIELDS + FLAGS] & COMM) != 0;
            int ups = holes > 0 ? above[a] : 0;
            int others = holes > 1 ? above[b] : 0;
            int thirds = holes > 2 ? above[c] : 0;
            int found = 0;
            for (int r = table[op * FIELDS + FIRST_ROW], n = 0; r >= 0 && n < rows; r = row[r * ROW_FIELDS + NEXT_ROW], n++) {
                int at = r * ROW_FIELDS;
                boolean fits = (holes < 1 || (ups >> row[at] & 1) != 0) && (holes < 2 || (others >> row[at + 1] & 1) != 0)
                        && (holes < 3 || (thirds >> row[at + 2] & 1) != 0);
                if (fits || (turned && (others >> row[at] & 1) != 0 && (ups >> row[at + 1] & 1) != 0)) {
                    found |= 1 << row[at + RESULT];
                }
            }
            for (int s = 0; s < sorts; s++) {
                if ((found >> s & 1) != 0 && (found & ~above[s]) == 0) {
                    return s;
                }
            }
            return found == 0 ? NO_ROW : NO_LEAST;
        }

        /** The highest STRENGTH that a HOLE takes. */
        int highestIn(int op, int hole) {
            int letter = table[op * FIELDS + LETTERS + hole];
            int own = table[op * FIELDS + STRENGTH];
            return letter == TAKES_ALL ? HIGHEST : letter == TAKES_MOST ? own : own - 1;
        }

        // variables and statements

        int variableOf(int name) {
            for (int v = 0; v < variables; v++) {
                if (variableName[v] == name) {
                    return v;
                }
            }
            return -1;
        }

        boolean addVariable(int name, int sort) {
            if (variables >= MOST_VARIABLES || variableOf(name) >= 0) {
                return false;
            }
            variableName[variables] = name;
            variableSort[variables] = sort;
            variables++;
            return true;
        }

        int told(int s, int what) {
            return statement[s * STATEMENT_FIELDS + what];
        }

        int toldPart(int p, int what) {
            return part[p * PART_FIELDS + what];
        }

        /** Ordinary equations are tried first, then the others. */
        void orderEquations() {
            int n = 0;
            for (int ordinary = 1; ordinary >= 0; ordinary--) {
                for (int e = 0; e < equations; e++) {
                    if (told(e, ORDINARY) == ordinary) {
                        tried[n] = e;
                        n++;
                    }
                }
            }
        }
    }

    /** What texts say: makes a module of a text, a term of a row of words, and a text of a term. */
    static final class Language {
        static final int ANY_KIND = -1, NO_READING = 6, DOUBTFUL = 7;
        private static final int SIDE = Syntax.LONGEST_ROW + 1, FIRST_ENTRIES = 2048, MOST_ENTRIES = 65536;
        /** A row of 39 that are PRINTED as 12 WORDS each, with 10 between, all in brackets, has 14,719 bytes: none has more. */
        private static final int FIRST_PRINTED = 1024, MOST_PRINTED = 1048576;
        /** Readings are told by operator, or, if they are a variable or in brackets, by KIND from here on. */
        private static final int ATOM = Theory.MOST_ROWS;
        /** An entry has how many readings there are (one, or two for more), their KIND, STRENGTH, and what they are. */
        private static final int KIND_SHIFT = 2, STRENGTH_SHIFT = 7, WHAT_SHIFT = 14, MANY = 3, KIND = 31, STRENGTH = 127;
        private static final int NOT_SO = -1;
        /** Which ATTRIBUTES a row tells, and one twice. */
        private static final int TELLS_ID = 4, TELLS_PREC = 8, TELLS_GATHER = 16, TWICE = 32;
        private static final int LISTS = 4, TOLD = 0, ID_NAME = 1, PREC = 2, GATHER = 3;

        private final Syntax syntax;
        private final Words words;
        private final Theory theory;
        private final Terms terms;
        private int first;
        /** For each stretch of words the entries of its readings. */
        private final int[] spanFrom = new int[SIDE * SIDE];
        private final int[] spanTo = new int[SIDE * SIDE];
        private int[] entries = new int[FIRST_ENTRIES];
        private int entryTop;
        private final int[] ofKind = new int[Theory.MOST_SORTS];
        byte[] printed = new byte[FIRST_PRINTED];
        int printedSize;
        private int printedTerm = -1;
        private final int[] form = new int[Theory.MOST_FORM + 1];
        /** The ATTRIBUTES of each row of op, and where the row stands. */
        private final int[] lists = new int[Theory.MOST_ROWS * LISTS];
        private final int[] rowPlace = new int[Theory.MOST_ROWS];
        private int foundCode;
        private int foundPlace;

        Language(Syntax syntax, Theory theory, Terms terms) {
            this.syntax = syntax;
            this.words = syntax.words;
            this.theory = theory;
            this.terms = terms;
        }

        /** A module of nothing. */
        void clear() {
            theory.clear();
            terms.clear();
            words.tellGiven();
        }

        /** A text that has been gone through as a module; false: it has a fault. */
        boolean load() {
            boolean good = tellNames() && tellOperators();
            for (int s = 0; s < syntax.statements && good; s++) {
                int word = get(s, Syntax.KIND);
                good = (word != Words.EQ && word != Words.OEQ && word != Words.RL) || readSides(s, word);
            }
            theory.orderEquations();
            terms.keepAll();
            return good;
        }

        /** The tape as a term, or -1 with a fault. */
        int readTape() {
            syntax.open(false, Words.MOST);
            int to = syntax.takeRow();
            if (to < 0) {
                return -1;
            }
            if (syntax.word != Syntax.END) {
                syntax.wrong();
                return -1;
            }
            return read(0, to, ANY_KIND);
        }

        private int get(int s, int what) {
            return syntax.table[s * Syntax.FIELDS + what];
        }

        private void note(int code, int word) {
            int place = words.start[word];
            if (foundCode == 0 || place < foundPlace || (place == foundPlace && code < foundCode)) {
                foundCode = code;
                foundPlace = place;
            }
        }

        // sorts, subsorts, variables, forms

        private boolean tellNames() {
            foundCode = 0;
            for (int s = 0; s < syntax.statements; s++) {
                if (get(s, Syntax.KIND) == Words.SORT) {
                    tellSorts(s);
                }
            }
            for (int s = 0; s < syntax.statements; s++) {
                switch (get(s, Syntax.KIND)) {
                    case Words.SORT: break;
                    case Words.SUBSORT: tellSubsorts(s); break;
                    case Words.VAR: tellVariables(s); break;
                    case Words.OP: lookAtForm(s); break;
                    default: lookAtParts(s); break;
                }
            }
            theory.numberKinds();
            return foundCode == 0 || syntax.fail(foundCode, foundPlace);
        }

        private void tellSorts(int s) {
            for (int w = get(s, Syntax.FROM); w < get(s, Syntax.TO); w++) {
                if (!theory.addSort(words.name[w])) {
                    note(3, w);
                }
            }
        }

        private int sortAt(int word) {
            int sort = theory.sortOf(words.name[word]);
            if (sort < 0) {
                note(4, word);
            }
            return sort;
        }

        private void tellSubsorts(int s) {
            int to = get(s, Syntax.TO);
            int leftFrom = get(s, Syntax.FROM);
            for (int w = leftFrom; w < to; w++) {
                if (words.name[w] == Words.LESS) {
                    putBelow(leftFrom, w, to);
                    leftFrom = w + 1;
                } else {
                    sortAt(w);
                }
            }
        }

        /** Each sort of the row ahead of a WORD < is below each of the row behind it. */
        private void putBelow(int leftFrom, int less, int to) {
            for (int high = less + 1; high < to && words.name[high] != Words.LESS; high++) {
                int upper = theory.sortOf(words.name[high]);
                for (int low = leftFrom; low < less; low++) {
                    int lower = theory.sortOf(words.name[low]);
                    if (upper >= 0 && lower >= 0 && !theory.addBelow(lower, upper)) {
                        note(4, less);
                    }
                }
            }
        }

        private void tellVariables(int s) {
            int sort = sortAt(get(s, Syntax.SORT_WORD));
            for (int w = get(s, Syntax.FROM); w < get(s, Syntax.TO); w++) {
                if (!theory.addVariable(words.name[w], sort)) {
                    note(3, w);
                }
            }
        }

        private void lookAtForm(int s) {
            if (formOf(s) == NOT_SO) {
                note(3, get(s, Syntax.FIRST));
            }
            for (int w = get(s, Syntax.SORTS_FROM); w < get(s, Syntax.SORTS_TO); w++) {
                sortAt(w);
            }
            sortAt(get(s, Syntax.RESULT));
        }

        private void lookAtParts(int s) {
            for (int k = get(s, Syntax.PART_FROM); k < get(s, Syntax.PART_TO); k++) {
                int p = k * Syntax.PART_FIELDS;
                if (syntax.parts[p + Syntax.SIGN] == Words.COLON) {
                    sortAt(syntax.parts[p + Syntax.U_FROM]);
                }
            }
        }

        /** PARTS and HOLES of a FORM are put into form: how many, or NOT_SO. */
        private int formOf(int s) {
            int sorts = get(s, Syntax.SORTS_TO) - get(s, Syntax.SORTS_FROM);
            int from = get(s, Syntax.FROM);
            int to = get(s, Syntax.TO);
            int n = 0;
            for (int w = from; w < to && n <= Theory.MOST_FORM; w++) {
                n = splitWord(w, n);
            }
            int holes = 0;
            for (int k = 0; k < n && k < form.length; k++) {
                if (form[k] == Theory.HOLE) {
                    holes++;
                }
            }
            if (n > Theory.MOST_FORM || sorts > 3) {
                return NOT_SO;
            }
            if (holes == 0 && sorts > 0) {
                return to - from == 1 && words.name[from] > Words.COMMA ? callForm(sorts) : NOT_SO;
            }
            return n == 0 || holes != sorts || (n == 1 && holes == 1) ? NOT_SO : n;
        }

        /** The word in form stands for itself, and its HOLES in brackets. */
        private int callForm(int sorts) {
            int n = 1;
            for (int k = 0; k < sorts; k++) {
                form[n] = k == 0 ? Words.OPEN : Words.COMMA;
                form[n + 1] = Theory.HOLE;
                n += 2;
            }
            form[n] = Words.CLOSE;
            return n + 1;
        }

        private int splitWord(int word, int n) {
            int at = words.start[word];
            int end = at + words.size[word];
            for (int p = at; p <= end && n < form.length; p++) {
                if (p < end && words.tape[p] != '_') {
                    continue;
                }
                if (p > at) {
                    form[n] = words.nameOf(words.tape, at, p - at, true);
                    n++;
                }
                if (p < end && n < form.length) {
                    form[n] = Theory.HOLE;
                    n++;
                }
                at = p + 1;
            }
            return n;
        }

        // operators

        private boolean tellOperators() {
            for (int s = 0; s < syntax.statements; s++) {
                if (get(s, Syntax.KIND) == Words.OP) {
                    tellRow(s);
                }
            }
            for (int r = 0; r < theory.rows; r++) {
                if (isBadList(r) || (r != theory.field(ownerOf(r), Theory.FIRST_ROW) && isBadLaterRow(r))) {
                    return syntax.fail(5, words.start[rowPlace[r]]);
                }
            }
            for (int op = 0; op < theory.operators; op++) {
                finishOperator(op);
            }
            return true;
        }

        private int ownerOf(int row) {
            return theory.row[row * Theory.ROW_FIELDS + Theory.OWNER];
        }

        private void tellRow(int s) {
            int r = theory.rows;
            int at = r * Theory.ROW_FIELDS;
            int holes = get(s, Syntax.SORTS_TO) - get(s, Syntax.SORTS_FROM);
            for (int k = 0; k < holes; k++) {
                theory.row[at + k] = theory.sortOf(words.name[get(s, Syntax.SORTS_FROM) + k]);
            }
            theory.row[at + Theory.RESULT] = theory.sortOf(words.name[get(s, Syntax.RESULT)]);
            theory.row[at + Theory.NEXT_ROW] = -1;
            rowPlace[r] = get(s, Syntax.FIRST);
            readList(r, get(s, Syntax.LIST_FROM), get(s, Syntax.LIST_TO));
            int size = formOf(s);
            int op = operatorOf(r, size, holes);
            if (op < 0) {
                op = newOperator(r, size, holes);
            } else {
                addRow(op, r);
            }
            theory.row[at + Theory.OWNER] = op;
            theory.rows++;
        }

        private int operatorOf(int r, int size, int holes) {
            for (int op = 0; op < theory.operators; op++) {
                boolean same = theory.field(op, Theory.FORM_SIZE) == size && theory.holes(op) == holes;
                for (int k = 0; same && k < size; k++) {
                    same = theory.form[op * Theory.MOST_FORM + k] == form[k];
                }
                for (int k = 0; same && k < holes; k++) {
                    same = theory.field(op, Theory.HOLE_KINDS + k) == kindAt(r, k);
                }
                if (same) {
                    return op;
                }
            }
            return -1;
        }

        private int kindAt(int r, int k) {
            return theory.kindOf[theory.row[r * Theory.ROW_FIELDS + k]];
        }

        private int newOperator(int r, int size, int holes) {
            int op = theory.operators;
            int at = op * Theory.FIELDS;
            for (int k = 0; k < size; k++) {
                theory.form[op * Theory.MOST_FORM + k] = form[k];
            }
            for (int k = 0; k < holes; k++) {
                theory.table[at + Theory.HOLE_KINDS + k] = kindAt(r, k);
            }
            theory.table[at + Theory.FORM_SIZE] = size;
            theory.table[at + Theory.HOLES] = holes;
            theory.table[at + Theory.KIND] = kindAt(r, Theory.RESULT);
            theory.table[at + Theory.FIRST_ROW] = r;
            theory.table[at + Theory.ROW_COUNT] = 1;
            theory.table[at + Theory.UNIT] = -1;
            theory.operators++;
            return op;
        }

        private void addRow(int op, int r) {
            int last = theory.field(op, Theory.FIRST_ROW);
            for (int n = 0; n < theory.rows && theory.row[last * Theory.ROW_FIELDS + Theory.NEXT_ROW] >= 0; n++) {
                last = theory.row[last * Theory.ROW_FIELDS + Theory.NEXT_ROW];
            }
            theory.row[last * Theory.ROW_FIELDS + Theory.NEXT_ROW] = r;
            theory.table[op * Theory.FIELDS + Theory.ROW_COUNT]++;
        }

        /** The ATTRIBUTES between the brackets of a row. */
        private void readList(int r, int from, int to) {
            int at = r * LISTS;
            lists[at + TOLD] = 0;
            lists[at + ID_NAME] = -1;
            lists[at + PREC] = -1;
            lists[at + GATHER] = 0;
            int w = from + 1;
            for (int n = 0; n < to && w < to - 1; n++) {
                int word = words.name[w];
                int told = 1 << (word - Words.ASSOC);
                lists[at + TOLD] |= (lists[at + TOLD] & told) != 0 ? TWICE : told;
                w++;
                if (word == Words.ID) {
                    lists[at + ID_NAME] = words.name[w];
                    w++;
                } else if (word == Words.PREC) {
                    lists[at + PREC] = syntax.numberAt(w);
                    w++;
                } else if (word == Words.GATHER) {
                    int letters = lettersAt(w, to);
                    lists[at + GATHER] = packedLetters(w, letters);
                    w += letters;
                }
            }
        }

        private int lettersAt(int from, int to) {
            int w = from;
            for (int n = 0; n < to && w < to && isLetter(words.name[w]); n++) {
                w++;
            }
            return w - from;
        }

        private static boolean isLetter(int name) {
            return name >= Words.LETTER_ALL && name <= Words.LETTER_LESS;
        }

        /** How many LETTERS there are, and the first three of them, in one number. */
        private int packedLetters(int from, int letters) {
            int packed = letters * 64;
            for (int k = 0; k < letters && k < 3; k++) {
                packed += (words.name[from + k] - Words.LETTER_ALL) << (2 * k);
            }
            return packed;
        }

        private boolean isBadList(int r) {
            int told = lists[r * LISTS + TOLD];
            int holes = theory.holes(ownerOf(r));
            boolean two = holes == 2 && kindAt(r, 0) == kindAt(r, 1);
            boolean closed = two && kindAt(r, Theory.RESULT) == kindAt(r, 0);
            if ((told & TWICE) != 0 || ((told & Theory.ASSOC) != 0 && !closed) || ((told & Theory.COMM) != 0 && !two)) {
                return true;
            }
            if ((told & TELLS_ID) != 0 && (!closed || unitNamed(lists[r * LISTS + ID_NAME], kindAt(r, 0)) < 0)) {
                return true;
            }
            return (told & TELLS_GATHER) != 0 && lists[r * LISTS + GATHER] / 64 != holes;
        }

        private int unitNamed(int name, int kind) {
            for (int op = 0; op < theory.operators; op++) {
                if (theory.holes(op) == 0 && theory.field(op, Theory.FORM_SIZE) == 1
                        && theory.form[op * Theory.MOST_FORM] == name && theory.kindOfOperator(op) == kind) {
                    return op;
                }
            }
            return -1;
        }

        private boolean isBadLaterRow(int r) {
            int op = ownerOf(r);
            int first = theory.field(op, Theory.FIRST_ROW);
            if (kindAt(r, Theory.RESULT) != theory.kindOfOperator(op)) {
                return true;
            }
            for (int k = 0; k < LISTS; k++) {
                if (lists[r * LISTS + k] != lists[first * LISTS + k]) {
                    return true;
                }
            }
            for (int q = 0; q < r; q++) {
                if (ownerOf(q) == op && hasSameSorts(q, r, theory.holes(op))) {
                    return true;
                }
            }
            return false;
        }

        private boolean hasSameSorts(int q, int r, int holes) {
            for (int k = 0; k < holes; k++) {
                if (theory.row[q * Theory.ROW_FIELDS + k] != theory.row[r * Theory.ROW_FIELDS + k]) {
                    return false;
                }
            }
            return true;
        }

        /** The ATTRIBUTES of an operator are those of its first row. */
        private void finishOperator(int op) {
            int list = theory.field(op, Theory.FIRST_ROW) * LISTS;
            int at = op * Theory.FIELDS;
            int told = lists[list + TOLD];
            int size = theory.field(op, Theory.FORM_SIZE);
            boolean holeFirst = theory.form[op * Theory.MOST_FORM] == Theory.HOLE;
            boolean holeLast = theory.form[op * Theory.MOST_FORM + size - 1] == Theory.HOLE;
            int strength = holeFirst || holeLast ? 41 : 0;
            theory.table[at + Theory.STRENGTH] = (told & TELLS_PREC) != 0 ? lists[list + PREC] : strength;
            theory.table[at + Theory.FLAGS] = told & (Theory.ASSOC | Theory.COMM);
            if ((told & TELLS_ID) != 0) {
                theory.table[at + Theory.UNIT] = unitNamed(lists[list + ID_NAME], theory.kindOfOperator(op));
            }
            int holes = theory.holes(op);
            for (int k = 0; k < holes; k++) {
                int letter = Theory.TAKES_ALL;
                if ((told & TELLS_GATHER) != 0) {
                    letter = lists[list + GATHER] >> (2 * k) & 3;
                } else if (k == 0 && holeFirst) {
                    letter = Theory.TAKES_MOST;
                } else if (k == holes - 1 && holeLast) {
                    letter = holeFirst ? Theory.TAKES_LESS : Theory.TAKES_MOST;
                }
                theory.table[at + Theory.LETTERS + k] = letter;
            }
        }

        // equations and rules

        private boolean readSides(int s, int word) {
            int left = read(get(s, Syntax.FROM), get(s, Syntax.TO), ANY_KIND);
            if (left < 0) {
                return false;
            }
            if (terms.isVariable(left)) {
                return syntax.fail(8, words.start[get(s, Syntax.FROM)]);
            }
            long known = terms.vars[left];
            int firstPart = theory.parts;
            for (int k = get(s, Syntax.PART_FROM); k < get(s, Syntax.PART_TO); k++) {
                if (!readPart(k, known)) {
                    return false;
                }
                if (theory.toldPart(theory.parts, Theory.SIGN) == Words.TAKES) {
                    known |= terms.vars[theory.toldPart(theory.parts, Theory.T)];
                }
                theory.parts++;
            }
            int from = get(s, Syntax.RIGHT_FROM);
            int right = read(from, get(s, Syntax.RIGHT_TO), terms.kindOf(left));
            if (right < 0 || !isKnown(right, known, from)) {
                return false;
            }
            int number = word == Words.RL ? Theory.MOST_EQUATIONS + theory.rules : theory.equations;
            int at = number * Theory.STATEMENT_FIELDS;
            theory.statement[at + Theory.LEFT] = left;
            theory.statement[at + Theory.RIGHT] = right;
            theory.statement[at + Theory.LABEL] = word == Words.RL ? words.name[get(s, Syntax.LABEL)] : -1;
            theory.statement[at + Theory.FIRST_PART] = firstPart;
            theory.statement[at + Theory.PART_COUNT] = theory.parts - firstPart;
            theory.statement[at + Theory.ORDINARY] = word == Words.EQ ? 1 : 0;
            if (word == Words.RL) {
                theory.rules++;
            } else {
                theory.equations++;
            }
            return true;
        }

        private boolean isKnown(int term, long known, int from) {
            return (terms.vars[term] & ~known) == 0 || syntax.fail(8, words.start[from]);
        }

        private boolean readPart(int k, long known) {
            int p = k * Syntax.PART_FIELDS;
            int at = theory.parts * Theory.PART_FIELDS;
            int sign = syntax.parts[p + Syntax.SIGN];
            int from = syntax.parts[p + Syntax.T_FROM];
            int uFrom = syntax.parts[p + Syntax.U_FROM];
            int sort = sign == Words.COLON ? theory.sortOf(words.name[uFrom]) : -1;
            int t = read(from, syntax.parts[p + Syntax.T_TO], sort < 0 ? ANY_KIND : theory.kindOf[sort]);
            if (t < 0 || (sign != Words.TAKES && !isKnown(t, known, from))) {
                return false;
            }
            int u = sort;
            if (sign != Words.COLON) {
                u = read(uFrom, syntax.parts[p + Syntax.U_TO], terms.kindOf(t));
                if (u < 0 || !isKnown(u, known, uFrom)) {
                    return false;
                }
            }
            theory.part[at + Theory.SIGN] = sign;
            theory.part[at + Theory.T] = t;
            theory.part[at + Theory.U] = u;
            theory.part[at + Theory.KNOWN] = (int) known;
            return true;
        }

        // terms

        /** The term that a row of words is, of a KIND or of any; or -1, with a fault. */
        int read(int from, int to, int kind) {
            int many = Math.min(to - from, Syntax.LONGEST_ROW);
            first = from;
            entryTop = 0;
            for (int size = 1; size <= many; size++) {
                for (int i = 0; i + size <= many; i++) {
                    fillSpan(i, i + size);
                }
            }
            int found = 0;
            int what = -1;
            for (int e = spanFrom[many]; e < spanTo[many]; e++) {
                if (kind == ANY_KIND || (entries[e] >> KIND_SHIFT & KIND) == kind) {
                    found += entries[e] & MANY;
                    what = entries[e] >> WHAT_SHIFT;
                }
            }
            int term = found == 1 ? build(0, many, what) : -1;
            if (term < 0) {
                syntax.fail(found > 1 ? DOUBTFUL : NO_READING, words.start[from]);
            }
            return term;
        }

        private void addEntry(int what, int kind, int strength, int many) {
            if (many > 0 && entryTop >= entries.length && entries.length < MOST_ENTRIES) {
                entries = Arrays.copyOf(entries, entries.length * 2);
            }
            if (many > 0 && entryTop < entries.length) {
                entries[entryTop] = Math.min(many, 2) | kind << KIND_SHIFT | strength << STRENGTH_SHIFT | what << WHAT_SHIFT;
                entryTop++;
            }
        }

        private void fillSpan(int i, int j) {
            int span = i * SIDE + j - i;
            int head = words.name[first + i];
            int last = words.name[first + j - 1];
            spanFrom[span] = entryTop;
            if (j - i == 1) {
                int variable = theory.variableOf(head);
                int kind = variable < 0 ? 0 : theory.kindOf[theory.variableSort[variable]];
                addEntry(ATOM + kind, kind, 0, variable < 0 ? 0 : 1);
            } else if (j - i > 2 && head == Words.OPEN && last == Words.CLOSE) {
                addBracketed(span + SIDE - 2);
            }
            for (int op = 0; op < theory.operators; op++) {
                // a look at the ends spares most operators
                int size = theory.field(op, Theory.FORM_SIZE);
                int at = op * Theory.MOST_FORM;
                boolean opens = theory.form[at] == Theory.HOLE || theory.form[at] == head;
                boolean closes = theory.form[at + size - 1] == Theory.HOLE || theory.form[at + size - 1] == last;
                if (size <= j - i && opens && closes) {
                    addEntry(op, theory.kindOfOperator(op), theory.strength(op), waysFrom(op, 0, 0, i, j));
                }
            }
            spanTo[span] = entryTop;
        }

        private void addBracketed(int inner) {
            Arrays.fill(ofKind, 0);
            for (int e = spanFrom[inner]; e < spanTo[inner]; e++) {
                ofKind[entries[e] >> KIND_SHIFT & KIND] += entries[e] & MANY;
            }
            for (int k = 0; k < theory.kinds; k++) {
                addEntry(ATOM + k, k, 0, ofKind[k]);
            }
        }

        /** In how many ways (up to two) the form from element e on stands in the words i .. j. */
        private int waysFrom(int op, int e, int hole, int i, int j) {
            int size = theory.field(op, Theory.FORM_SIZE);
            int at = op * Theory.MOST_FORM;
            int here = i;
            int k = e;
            for (; k < size && theory.form[at + k] != Theory.HOLE; k++) {
                if (here >= j || words.name[first + here] != theory.form[at + k]) {
                    return 0;
                }
                here++;
            }
            if (k == size) {
                return here == j ? 1 : 0;
            }
            int behind = size - k - 1;
            int next = behind > 0 ? theory.form[at + k + 1] : Theory.HOLE;
            int found = 0;
            for (int m = behind == 0 ? Math.max(j, here + 1) : here + 1; m <= j - behind && found < 2; m++) {
                if (next == Theory.HOLE || words.name[first + m] == next) {
                    int many = readingsTaken(op, hole, here, m);
                    found += many == 0 ? 0 : many * waysFrom(op, k + 1, hole + 1, m, j);
                }
            }
            return Math.min(found, 2);
        }

        /** How many readings of words i .. j a HOLE takes. */
        private int readingsTaken(int op, int hole, int i, int j) {
            int span = i * SIDE + j - i;
            int kind = theory.field(op, Theory.HOLE_KINDS + hole);
            int highest = theory.highestIn(op, hole);
            int found = 0;
            for (int e = spanFrom[span]; e < spanTo[span]; e++) {
                if ((entries[e] >> KIND_SHIFT & KIND) == kind && (entries[e] >> STRENGTH_SHIFT & STRENGTH) <= highest) {
                    found += entries[e] & MANY;
                }
            }
            return found;
        }

        /** The term of the one reading of words i .. j with this operator, or as this atom; -1: it is too big. */
        private int build(int i, int j, int what) {
            if (what >= ATOM) {
                if (j - i == 1) {
                    return terms.intern(theory.variableOf(words.name[first + i]), 0);
                }
                return build(i + 1, j - 1, onlyReading(i + 1, j - 1, what - ATOM, Theory.HIGHEST));
            }
            int size = theory.field(what, Theory.FORM_SIZE);
            int base = terms.argTop;
            int hole = 0;
            int here = i;
            for (int k = 0; k < size; k++) {
                if (theory.form[what * Theory.MOST_FORM + k] != Theory.HOLE) {
                    here++;
                    continue;
                }
                int end = holeEnd(what, k, hole, here, j);
                int kind = theory.field(what, Theory.HOLE_KINDS + hole);
                int inner = build(here, end, onlyReading(here, end, kind, theory.highestIn(what, hole)));
                if (inner < 0) {
                    terms.argTop = base;
                    return -1;
                }
                terms.push(inner);
                hole++;
                here = end;
            }
            int made = terms.make(what, base, hole);
            terms.argTop = base;
            return made;
        }

        private int holeEnd(int op, int k, int hole, int from, int j) {
            for (int m = from + 1; m <= j; m++) {
                if (readingsTaken(op, hole, from, m) > 0 && waysFrom(op, k + 1, hole + 1, m, j) > 0) {
                    return m;
                }
            }
            return j;
        }

        /** What the one reading of words i .. j is that has a KIND, and no more than a STRENGTH. */
        private int onlyReading(int i, int j, int kind, int highest) {
            int span = i * SIDE + j - i;
            for (int e = spanFrom[span]; e < spanTo[span]; e++) {
                if ((entries[e] >> KIND_SHIFT & KIND) == kind && (entries[e] >> STRENGTH_SHIFT & STRENGTH) <= highest) {
                    return entries[e] >> WHAT_SHIFT;
                }
            }
            return 0;
        }

        // printing

        void forgetPrinted() {
            printedTerm = -1;
        }

        /** What a term is printed as stands in printed then. */
        void show(int term) {
            if (term == printedTerm) {
                return;
            }
            printedSize = 0;
            put(term, terms.rowSize(term));
            printedTerm = term;
        }

        private void putByte(int b) {
            if (printedSize >= printed.length && printed.length < MOST_PRINTED) {
                printed = Arrays.copyOf(printed, printed.length * 2);
            }
            if (printedSize < printed.length) {
                printed[printedSize] = (byte) b;
                printedSize++;
            }
        }

        private void putName(int name) {
            if (printedSize > 0) {
                putByte(32);
            }
            for (int k = words.nameAt[name]; k < words.nameAt[name + 1]; k++) {
                putByte(words.bytes[k]);
            }
        }

        /** A term with the first n of its row; of an assoc row these are n - 1 of them and the next one. */
        private void put(int term, int n) {
            if (terms.isVariable(term)) {
                int variable = terms.head[term];
                putName(theory.variableName[variable % Theory.MOST_VARIABLES]);
                if (variable >= Theory.MOST_VARIABLES) {
                    putByte('\'');
                }
                return;
            }
            int op = terms.operatorOf(term);
            int size = theory.field(op, Theory.FORM_SIZE);
            boolean longer = n > 2 && theory.isAssoc(op);
            int hole = 0;
            for (int k = 0; k < size; k++) {
                int element = theory.form[op * Theory.MOST_FORM + k];
                if (element != Theory.HOLE) {
                    putName(element);
                    continue;
                }
                if (longer && hole == 0) {
                    putInHole(op, hole, term, n - 1);
                } else {
                    int inner = terms.rowAt(term, longer ? n - 1 : hole);
                    putInHole(op, hole, inner, terms.rowSize(inner));
                }
                hole++;
            }
        }

        private void putInHole(int op, int hole, int term, int n) {
            int strength = terms.isVariable(term) ? 0 : theory.strength(terms.operatorOf(term));
            boolean bare = strength <= theory.highestIn(op, hole);
            if (!bare) {
                putName(Words.OPEN);
            }
            put(term, n);
            if (!bare) {
                putName(Words.CLOSE);
            }
        }
    }

    /** All terms, each once: those that are the same under the axioms have one number. */
    static final class Terms {
        static final int MOST = 98304, MOST_SIZE = 40;
        /** The head of a variable is its number, that of an operator is this much higher: heads are in ORDER. */
        static final int OPERATOR = 60;
        private static final int FIRST_TERMS = 8192, FIRST_CELLS = 32768, MOST_CELLS = 524288, CHAINS = 8192, MOST_ARGS = 8192;
        /** What info has of a term: SIZE, least sort (and 1), assoc rows, comm rows that are not assoc. */
        private static final int SIZE = 63, LEAST = 31, LEAST_SHIFT = 6, ASSOC_SHIFT = 11, COMM_SHIFT = 17, LIVE = 1 << 30;

        private final Theory theory;
        int[] head = new int[FIRST_TERMS];
        private int[] start = new int[FIRST_TERMS + 1];
        private int[] info = new int[FIRST_TERMS];
        private int[] next = new int[FIRST_TERMS];
        /** The variables in a term, as bits. */
        long[] vars = new long[FIRST_TERMS];
        private int[] cells = new int[FIRST_CELLS];
        /** What a term came to in a call, if its stamp is that of the call. */
        int[] rest = new int[FIRST_TERMS];
        int[] stamp = new int[FIRST_TERMS];
        private final int[] chains = new int[CHAINS];
        int count;
        private int kept;
        /** The row of the term that is being made. */
        final int[] row = new int[MOST_SIZE + 2];
        private final int[] args = new int[MOST_ARGS];
        int argTop;
        /** The way down to the place that is looked at: terms, and where the next one stands in each. */
        private final int[] path = new int[MOST_SIZE + 2];
        private final int[] place = new int[MOST_SIZE + 2];
        private int level;

        Terms(Theory theory) {
            this.theory = theory;
            Arrays.fill(chains, -1);
        }

        void clear() {
            count = 0;
            kept = 0;
            argTop = 0;
            start[0] = 0;
            Arrays.fill(chains, -1);
        }

        /** All that is there now stays as long as the module. */
        void keepAll() {
            kept = count;
        }

        boolean isVariable(int term) {
            return head[term] < OPERATOR;
        }

        int operatorOf(int term) {
            return head[term] - OPERATOR;
        }

        int rowSize(int term) {
            return start[term + 1] - start[term];
        }

        int rowAt(int term, int k) {
            return cells[start[term] + k];
        }

        int sizeOf(int term) {
            return info[term] & SIZE;
        }

        /** The least sort, or -1. */
        int leastOf(int term) {
            return (info[term] >> LEAST_SHIFT & LEAST) - 1;
        }

        int assocRows(int term) {
            return info[term] >> ASSOC_SHIFT & SIZE;
        }

        int commRows(int term) {
            return info[term] >> COMM_SHIFT & SIZE;
        }

        /** How many choices a pattern leaves: variables, and what has none, the fewest; rows of assoc operators the most. */
        int rankOf(int term) {
            boolean settled = head[term] < OPERATOR || vars[term] == 0L;
            return settled ? 0 : (info[term] >> ASSOC_SHIFT & SIZE) == 0 ? 1 : 2;
        }

        int kindOf(int term) {
            if (isVariable(term)) {
                return theory.kindOf[theory.variableSort[head[term] % Theory.MOST_VARIABLES]];
            }
            return theory.kindOfOperator(operatorOf(term));
        }

        void push(int term) {
            if (argTop < MOST_ARGS) {
                args[argTop] = term;
                argTop++;
            }
        }

        int pushedAt(int k) {
            return k >= 0 && k < MOST_ARGS ? args[k] : -1;
        }

        /** The term of an operator over terms that were pushed, under its axioms; -1: it is too big. */
        int make(int op, int base, int many) {
            int unit = theory.unit(op) < 0 ? -1 : theory.unit(op) + OPERATOR;
            boolean flat = theory.isAssoc(op);
            int n = 0;
            int size = 0;
            for (int k = base; k < base + many && k < argTop; k++) {
                int arg = args[k];
                boolean opened = flat && head[arg] == op + OPERATOR;
                int last = opened ? rowSize(arg) : 1;
                for (int i = 0; i < last; i++) {
                    int element = opened ? rowAt(arg, i) : arg;
                    if (unit >= 0 && head[element] == unit) {
                        continue;
                    }
                    size += sizeOf(element);
                    if (size > MOST_SIZE) {
                        return -1;
                    }
                    row[n] = element;
                    n++;
                }
            }
            if (unit >= 0 && n < 2) {
                return n == 0 ? intern(unit, 0) : row[0];
            }
            if (size >= MOST_SIZE) {
                return -1;
            }
            if (theory.isComm(op)) {
                sortRow(n);
            }
            return intern(op + OPERATOR, n);
        }

        private void sortRow(int n) {
            for (int k = 1; k < n; k++) {
                int term = row[k];
                int at = k;
                for (int i = k - 1; i >= 0 && compare(row[i], term) > 0; i--) {
                    row[i + 1] = row[i];
                    at = i;
                }
                row[at] = term;
            }
        }

        /** The term with this head over the first n of row, which are as the axioms want them; -1: no room. */
        int intern(int top, int n) {
            int chain = chainOf(top, n);
            for (int t = chains[chain], k = 0; t >= 0 && k < MOST; t = next[t], k++) {
                if (head[t] == top && hasRow(t, n)) {
                    return t;
                }
            }
            if (!hasRoom(n)) {
                return -1;
            }
            int fresh = count;
            int at = start[fresh];
            int op = top - OPERATOR;
            int flags = op < 0 ? 0 : theory.field(op, Theory.FLAGS);
            int least = op < 0 ? theory.variableSort[top % Theory.MOST_VARIABLES]
                    : theory.leastOver(op, leastIn(0, n), leastIn(1, n), leastIn(2, n));
            for (int k = 2; k < n && (flags & Theory.ASSOC) != 0; k++) {
                least = theory.leastOver(op, least, leastIn(k, n), -1);
            }
            long in = op < 0 ? 1L << top : 0L;
            int sum = 1 + ((flags & Theory.ASSOC) != 0 ? 1 << ASSOC_SHIFT : flags != 0 ? 1 << COMM_SHIFT : 0);
            for (int k = 0; k < n; k++) {
                cells[at + k] = row[k];
                in |= vars[row[k]];
                sum += info[row[k]] & ~(LEAST << LEAST_SHIFT);
            }
            head[fresh] = top;
            start[fresh + 1] = at + n;
            vars[fresh] = in;
            info[fresh] = sum + (Math.max(least, -1) + 1 << LEAST_SHIFT);
            next[fresh] = chains[chain];
            chains[chain] = fresh;
            count++;
            return fresh;
        }

        /** Whether there is room for a term with a row of n; most objects never need more than the first rows. */
        private boolean hasRoom(int n) {
            if (count >= head.length && head.length < MOST) {
                int many = Math.min(head.length * 2, MOST);
                head = Arrays.copyOf(head, many);
                start = Arrays.copyOf(start, many + 1);
                info = Arrays.copyOf(info, many);
                next = Arrays.copyOf(next, many);
                vars = Arrays.copyOf(vars, many);
                rest = Arrays.copyOf(rest, many);
                stamp = Arrays.copyOf(stamp, many);
            }
            if (start[count] + n > cells.length && cells.length < MOST_CELLS) {
                cells = Arrays.copyOf(cells, Math.min(cells.length * 2, MOST_CELLS));
            }
            return count < head.length && start[count] + n <= cells.length;
        }

        private int chainOf(int top, int n) {
            int sum = top * 31 + n;
            for (int k = 0; k < n; k++) {
                sum = sum * 1000003 + row[k];
            }
            return (sum ^ sum >>> 13) & (CHAINS - 1);
        }

        private boolean hasRow(int term, int n) {
            int at = start[term];
            if (start[term + 1] - at != n) {
                return false;
            }
            for (int k = 0; k < n; k++) {
                if (cells[at + k] != row[k]) {
                    return false;
                }
            }
            return true;
        }

        private int leastIn(int k, int n) {
            return k < n ? (info[row[k]] >> LEAST_SHIFT & LEAST) - 1 : -1;
        }

        /** ORDER of two terms. */
        private int compare(int a, int b) {
            if (a == b) {
                return 0;
            }
            if (head[a] != head[b]) {
                return head[a] < head[b] ? -1 : 1;
            }
            int n = rowSize(a);
            if (n != rowSize(b)) {
                return n < rowSize(b) ? -1 : 1;
            }
            for (int k = 0; k < n; k++) {
                int found = compare(rowAt(a, k), rowAt(b, k));
                if (found != 0) {
                    return found;
                }
            }
            return 0;
        }

        /** A term with what its variables, all of them, stand for; -1: it is too big. */
        private int fill(int term, int[] values, int base) {
            if (vars[term] == 0L) {
                return term;
            }
            if (isVariable(term)) {
                return values[base + head[term]];
            }
            int from = argTop;
            int many = rowSize(term);
            for (int k = 0; k < many; k++) {
                int inner = fill(rowAt(term, k), values, base);
                if (inner < 0) {
                    argTop = from;
                    return -1;
                }
                push(inner);
            }
            int made = make(operatorOf(term), from, many);
            argTop = from;
            return made;
        }

        // places in a term

        /** The first place in a term is the whole. */
        void openPlaces(int term) {
            level = 0;
            path[0] = term;
            place[0] = -1;
        }

        /** The term at the place that is looked at; they come each wholly before the next. */
        int termHere() {
            return path[level];
        }

        boolean isWholeHere() {
            return level == 0;
        }

        /** On to the next place; false: there is none. */
        boolean nextPlace() {
            for (int n = 0; n <= MOST_SIZE && level >= 0; n++) {
                place[level]++;
                if (place[level] < rowSize(path[level]) && level <= MOST_SIZE) {
                    path[level + 1] = rowAt(path[level], place[level]);
                    level++;
                    place[level] = -1;
                    return true;
                }
                level--;
            }
            return false;
        }

        /** The whole with another term at the place that is looked at; -1: it is too big. */
        int wholeWith(int term) {
            int made = term;
            for (int l = level - 1; l >= 0 && made >= 0; l--) {
                int base = argTop;
                int many = rowSize(path[l]);
                for (int k = 0; k < many; k++) {
                    push(k == place[l] ? made : rowAt(path[l], k));
                }
                made = make(operatorOf(path[l]), base, many);
                argTop = base;
            }
            return made;
        }

        /** All terms in a term, each once, by number: how many. */
        int collect(int term, int[] list) {
            list[0] = term;
            int many = 1;
            for (int k = 0; k < many; k++) {
                for (int i = 0; i < rowSize(list[k]); i++) {
                    int inner = rowAt(list[k], i);
                    if (indexOf(list, many, inner) < 0 && many < list.length) {
                        list[many] = inner;
                        many++;
                    }
                }
            }
            for (int k = 1; k < many; k++) {
                for (int i = k; i > 0 && list[i - 1] > list[i]; i--) {
                    int other = list[i];
                    list[i] = list[i - 1];
                    list[i - 1] = other;
                }
            }
            return many;
        }

        /** Where a term stands in the first of a list, or -1. */
        static int indexOf(int[] list, int many, int term) {
            for (int k = 0; k < many; k++) {
                if (list[k] == term) {
                    return k;
                }
            }
            return -1;
        }

        // making room

        /** All terms from this number on go; none of them may be needed. */
        void release(int mark) {
            for (int t = count - 1; t >= mark && t >= 0; t--) {
                int n = rowSize(t);
                for (int k = 0; k < n && k < row.length; k++) {
                    row[k] = rowAt(t, k);
                }
                chains[chainOf(head[t], n)] = next[t];
            }
            count = Math.min(count, mark);
        }

        void mark(int term) {
            if (term >= 0 && term < count) {
                info[term] |= LIVE;
            }
        }

        /** Terms that are not marked, nor in marked ones, go; moved() tells the new numbers until hashAgain(). */
        void sweep() {
            for (int t = count - 1; t >= 0; t--) {
                if (t < kept) {
                    info[t] |= LIVE;
                }
                for (int k = start[t]; (info[t] & LIVE) != 0 && k < start[t + 1]; k++) {
                    info[cells[k]] |= LIVE;
                }
            }
            int fresh = 0;
            int cell = 0;
            int end = 0;
            for (int t = 0; t < count; t++) {
                int from = end;
                end = start[t + 1];
                if ((info[t] & LIVE) == 0) {
                    next[t] = -1;
                    continue;
                }
                for (int k = from; k < end; k++) {
                    cells[cell] = next[cells[k]];
                    cell++;
                }
                head[fresh] = head[t];
                info[fresh] = info[t] & ~LIVE;
                vars[fresh] = vars[t];
                start[fresh + 1] = cell;
                next[t] = fresh;
                fresh++;
            }
            count = fresh;
        }

        int moved(int term) {
            return term < 0 ? term : next[term];
        }

        void hashAgain() {
            Arrays.fill(chains, -1);
            for (int t = 0; t < count; t++) {
                int n = rowSize(t);
                for (int k = 0; k < n && k < row.length; k++) {
                    row[k] = rowAt(t, k);
                }
                int chain = chainOf(head[t], n);
                next[t] = chains[chain];
                chains[chain] = t;
            }
        }
    }

    /** What a call has used up, and the STOP that ended it. */
    static final class Counts {
        static final int MOST_STEPS = 600, MOST_MATCHERS = 6000, MOST_FILLED = 4000;
        static final int MOST_DEALS = 300000, MOST_DEALS_OF_PAIRS = 3000000;
        static final int HALTED = -1;
        private static final long VERY_MANY = 4000000L;

        private final Theory theory;
        private final Terms terms;
        int steps;
        private int matchers;
        private int filled;
        private long deals;
        private int mostDeals;
        int stop;
        /** Of each operator the longest row in the term that was measured last. */
        private final int[] longest = new int[Theory.MOST_ROWS];
        private int measured = -1;

        Counts(Theory theory, Terms terms) {
            this.theory = theory;
            this.terms = terms;
        }

        void begin(int most) {
            deals = 0L;
            mostDeals = most;
            stop = 0;
            beginAnew();
        }

        /** All but the deals begins anew; and no term has been measured. */
        void beginAnew() {
            steps = 0;
            matchers = 0;
            filled = 0;
            measured = -1;
        }

        int halt(int code) {
            if (stop == 0) {
                stop = code;
            }
            return HALTED;
        }

        boolean addStep() {
            steps++;
            return steps <= MOST_STEPS || halt(1) >= 0;
        }

        boolean addMatchers(int many) {
            matchers += many;
            return matchers <= MOST_MATCHERS || halt(4) >= 0;
        }

        private boolean addDeals(long many) {
            deals += many;
            return deals <= mostDeals || halt(4) >= 0;
        }

        boolean addFilled(int many) {
            filled += many;
            return filled <= MOST_FILLED || halt(7) >= 0;
        }

        // what a list costs

        /** WIDE, then the DEALS of a list are looked at, ahead of it. */
        boolean addList(int pattern, int term) {
            long cost = 1L << terms.commRows(pattern);
            if (terms.assocRows(pattern) > 0) {
                if (measured != term) {
                    Arrays.fill(longest, 1);
                    measure(term);
                    measured = term;
                }
                long rowDeals = dealsOf(pattern);
                if (rowDeals < 0L) {
                    return halt(3) >= 0;
                }
                cost = Math.min(cost * rowDeals, VERY_MANY);
            }
            return addDeals(cost);
        }

        private void measure(int term) {
            if (terms.assocRows(term) == 0) {
                return;
            }
            int many = terms.rowSize(term);
            int op = terms.operatorOf(term);
            if (theory.isAssoc(op)) {
                longest[op] = Math.max(longest[op], many);
            }
            for (int k = 0; k < many; k++) {
                measure(terms.rowAt(term, k));
            }
        }

        /** The deals for all assoc rows of a pattern, or -1: it is WIDE. */
        private long dealsOf(int pattern) {
            if (terms.assocRows(pattern) == 0) {
                return 1L;
            }
            int many = terms.rowSize(pattern);
            int op = terms.operatorOf(pattern);
            long deals = 1L;
            if (theory.isAssoc(op)) {
                if (longest[op] > Matcher.WIDEST) {
                    return -1L;
                }
                deals = theory.isComm(op) ? power(many + 1, longest[op]) : waysInRow(longest[op], many);
            }
            for (int k = 0; k < many; k++) {
                long inner = dealsOf(terms.rowAt(pattern, k));
                if (inner < 0L) {
                    return -1L;
                }
                deals = Math.min(deals * inner, VERY_MANY);
            }
            return Math.min(deals, VERY_MANY);
        }

        private static long power(int base, int exponent) {
            long product = 1L;
            for (int k = 0; k < exponent; k++) {
                product *= base;
            }
            return product;
        }

        /** In how many ways w can be dealt to r + 2 in a row. */
        private static long waysInRow(int w, int r) {
            long ways = 1L;
            for (int k = 1; k <= w; k++) {
                ways = ways * (r + 1 + k) / k;
            }
            return ways;
        }
    }

    /** Lists all matchers of a pattern and a term. */
    static final class Matcher {
        static final int MOST_LISTED = 200, WIDEST = 6;
        private static final int VARIABLES = 60, FIRST_CELLS = 8192, MOST_CELLS = 262144;
        /** Far above what any list needs: one that takes LONG_WORK looks ahead, and is not led astray any more. */
        private static final int MOST_WORK = 2000000000, LONG_WORK = 1000;
        private static final int NIL = -1, FAILS = -2;
        /** A goal: a pattern that is to become a term, or the rest of a pattern's row to become a rest of a row. */
        private static final int PATTERN = 0, TERM = 1, ITEMS = 2, REST = 3, NEXT = 4, GOAL = 5, MOST_GOALS = 800;
        /** ITEMS tells how many items of the pattern's row are left; or that the term counts as a whole, or in part. */
        private static final int WHOLE = -1, PART_OF = -2;
        /** A choice that was left open: its goal, the next thing to try (or -1), and what was there before it. */
        private static final int UNTRIED = 1, GOALS = 2, BOUND = 3, FOUND = 4, WORK = 5, CHOICE = 6, MOST_CHOICES = 400;
        /** A dead end is kept if it took so much to see that it is one. */
        private static final int WORTH_KEEPING = 16;

        private final Theory theory;
        private final Terms terms;
        private final Counts counts;
        private final Outlook outlook;
        private final int[] bind = new int[VARIABLES];
        private final int[] trail = new int[VARIABLES + 1];
        private int trailTop;
        private final int[] goals = new int[MOST_GOALS * GOAL];
        private int goalTop;
        private final int[] choices = new int[MOST_CHOICES * CHOICE];
        private int choiceTop;
        /** The next alternative of the goal that was just tried, or -1. */
        private int more;
        /** Lists stand one behind the other: of each matcher its terms by variables, what is ahead, behind. */
        int[] rows = new int[FIRST_CELLS];
        int top;
        private int found;
        private final int[] fresh = new int[VARIABLES + 2];
        private int root;
        /** The pattern may stand for a part of the row: from here on, and what it left of it. */
        private boolean open;
        private int aheadSize;
        private int left;
        /** The row of which items take some. */
        private final int[] line = new int[WIDEST];
        private int lineSize;

        Matcher(Theory theory, Terms terms, Counts counts) {
            this.theory = theory;
            this.terms = terms;
            this.counts = counts;
            this.outlook = new Outlook(theory, terms);
            Arrays.fill(bind, -1);
        }

        /** No list is kept. */
        void begin() {
            top = 0;
        }

        /** How many numbers each matcher of a pattern has in a list. */
        int widthOf(int pattern) {
            return Long.bitCount(terms.vars[pattern]) + 2;
        }

        /** Lists matchers from top on, with what known variables stand for: how many; -1: stopped. */
        int list(int pattern, int term, boolean within, long known, int[] values, int at) {
            if (!counts.addList(pattern, term)) {
                return Counts.HALTED;
            }
            boolean operator = !terms.isVariable(pattern);
            open = within && operator && theory.isAssoc(terms.operatorOf(pattern)) && terms.head[term] == terms.head[pattern];
            if (operator && terms.head[term] != terms.head[pattern] && theory.unit(terms.operatorOf(pattern)) < 0) {
                return 0;
            }
            int goal = firstGoal(pattern, term, known, values, at);
            int alternative = 0;
            for (int work = 0; work < MOST_WORK && goal != FAILS && counts.stop == 0; work++) {
                int goalMark = goalTop;
                int trailMark = trailTop;
                more = -1;
                int next = FAILS;
                if (goal == NIL) {
                    note();
                    insert(widthOf(pattern));
                } else {
                    next = advance(goal, alternative);
                }
                if (more >= 0 && work >= LONG_WORK) {
                    outlook.open(pattern, term);
                }
                if (alternative > 0) {
                    keepUntried();
                } else if (more >= 0 && work >= LONG_WORK && isHopeless(goal)) {
                    next = FAILS;
                } else if (more >= 0) {
                    addChoice(goal, goalMark, trailMark, work);
                }
                goal = next == FAILS ? back(work) : next;
                alternative = next == FAILS ? more : 0;
            }
            unbind(0);
            if (goal != FAILS || counts.stop != 0 || !counts.addMatchers(found)) {
                return counts.halt(4);
            }
            top += found * widthOf(pattern);
            return found;
        }

        /** A pattern is to become a term; known variables stand for something already. */
        private int firstGoal(int pattern, int term, long known, int[] values, int at) {
            found = 0;
            root = pattern;
            aheadSize = 0;
            goalTop = 0;
            choiceTop = 0;
            trailTop = 0;
            outlook.close();
            long rest = known & terms.vars[pattern];
            for (int v = 0; v < VARIABLES && rest != 0L; v++, rest >>>= 1) {
                if ((rest & 1L) != 0L) {
                    bind[v] = values[at + v];
                    trail[trailTop] = v;
                    trailTop++;
                }
            }
            return newGoal(pattern, term, WHOLE, 0, NIL);
        }

        /** Back to the last choice with something untried: its goal; more is what is to be tried then. */
        private int back(int work) {
            for (int c = choiceTop - CHOICE; c >= 0; c -= CHOICE) {
                goalTop = choices[c + GOALS];
                unbind(choices[c + BOUND]);
                more = choices[c + UNTRIED];
                if (more >= 0) {
                    return choices[c];
                }
                choiceTop = c;
                // no two ways lead to the same matcher: if there are no more than before, all ways from there failed
                if (work >= LONG_WORK && found == choices[c + FOUND] && work - choices[c + WORK] >= WORTH_KEEPING) {
                    writeState(choices[c]);
                    outlook.keepDeadEnd();
                }
            }
            return FAILS;
        }

        /** Variables that were bound since then stand for nothing any more. */
        private void unbind(int mark) {
            for (int n = trailTop; n > mark; n--) {
                bind[trail[n - 1]] = -1;
            }
            trailTop = mark;
        }

        // solving

        private void addChoice(int goal, int goalMark, int trailMark, int work) {
            if (choiceTop + CHOICE > choices.length) {
                counts.halt(4);
                return;
            }
            choices[choiceTop] = goal;
            choices[choiceTop + UNTRIED] = more;
            choices[choiceTop + GOALS] = goalMark;
            choices[choiceTop + BOUND] = trailMark;
            choices[choiceTop + FOUND] = found;
            choices[choiceTop + WORK] = work;
            choiceTop += CHOICE;
        }

        /** What is left to be tried of the choice to which it went back. */
        private void keepUntried() {
            if (choiceTop >= CHOICE) {
                choices[choiceTop - CHOICE + UNTRIED] = more;
            }
        }

        private int newGoal(int pattern, int term, int items, int rest, int next) {
            if (goalTop + GOAL > goals.length) {
                counts.stop = 4;
                return FAILS;
            }
            int goal = goalTop;
            goals[goal + PATTERN] = pattern;
            goals[goal + TERM] = term;
            goals[goal + ITEMS] = items;
            goals[goal + REST] = rest;
            goals[goal + NEXT] = next;
            goalTop += GOAL;
            return goal;
        }

        /** Tries an alternative of a goal, or the next one that there is: the goals that are left, or FAILS. */
        private int advance(int goal, int alternative) {
            int p = goals[goal + PATTERN];
            int items = goals[goal + ITEMS];
            int next = goals[goal + NEXT];
            int op = terms.operatorOf(p);
            if (items >= 0) {
                loadLine(op, goals[goal + TERM]);
                return theory.isComm(op) ? dealAny(goal, alternative) : dealInRow(goal, alternative);
            }
            int t = goals[goal + TERM];
            if (items <= PART_OF) {
                loadLine(PART_OF - items, t);
                t = taken(PART_OF - items, goals[goal + REST]);
                if (t < 0) {
                    counts.halt(4);
                    return FAILS;
                }
            }
            if (terms.isVariable(p)) {
                return isBoundTo(terms.head[p], t) ? next : FAILS;
            }
            boolean openHere = open && p == root;
            if (terms.vars[p] == 0L && !openHere) {
                return p == t ? next : FAILS;
            }
            if (theory.isAssoc(op)) {
                return startRow(p, t, next, alternative);
            }
            if (theory.unit(op) >= 0) {
                return splitWithUnit(p, t, next, alternative);
            }
            if (terms.head[t] != terms.head[p]) {
                return FAILS;
            }
            if (theory.isComm(op)) {
                more = alternative == 0 && terms.rowAt(t, 0) != terms.rowAt(t, 1) ? 1 : -1;
                return twoGoals(p, terms.rowAt(t, alternative), terms.rowAt(t, 1 - alternative), next);
            }
            return rowGoals(p, t, next);
        }

        /** The terms in a pattern's row are to become those in a row of a term; what leaves fewer choices comes first. */
        private int rowGoals(int p, int t, int next) {
            int list = next;
            for (int rank = 2; rank >= 0; rank--) {
                for (int k = terms.rowSize(p) - 1; k >= 0 && list != FAILS; k--) {
                    if (terms.rankOf(terms.rowAt(p, k)) == rank) {
                        list = newGoal(terms.rowAt(p, k), terms.rowAt(t, k), WHOLE, 0, list);
                    }
                }
            }
            return list;
        }

        private boolean isBoundTo(int variable, int term) {
            if (bind[variable] >= 0) {
                return bind[variable] == term;
            }
            int least = terms.leastOf(term);
            if (least < 0 || !theory.isBelow(least, theory.variableSort[variable % Theory.MOST_VARIABLES])) {
                return false;
            }
            bind[variable] = term;
            trail[trailTop] = variable;
            trailTop++;
            return true;
        }

        private int twoGoals(int p, int first, int second, int next) {
            int ahead = terms.rankOf(terms.rowAt(p, 0)) <= terms.rankOf(terms.rowAt(p, 1)) ? 0 : 1;
            int list = newGoal(terms.rowAt(p, 1 - ahead), ahead == 0 ? second : first, WHOLE, 0, next);
            return list == FAILS ? FAILS : newGoal(terms.rowAt(p, ahead), ahead == 0 ? first : second, WHOLE, 0, list);
        }

        /** A row of two whose operator has an id, but is not assoc: in this order, turned, or one of them is the id. */
        private int splitWithUnit(int p, int t, int next, int alternative) {
            int op = terms.operatorOf(p);
            int id = terms.intern(theory.unit(op) + Terms.OPERATOR, 0);
            int now = alternative;
            if (now == 0 && terms.head[t] != terms.head[p]) {
                now = 2;
            }
            if (now == 1 && (!theory.isComm(op) || terms.rowAt(t, 0) == terms.rowAt(t, 1))) {
                now = 2;
            }
            more = now < 2 ? now + 1 : now == 2 && t != id ? 3 : -1;
            switch (now) {
                case 0: return twoGoals(p, terms.rowAt(t, 0), terms.rowAt(t, 1), next);
                case 1: return twoGoals(p, terms.rowAt(t, 1), terms.rowAt(t, 0), next);
                case 2: return twoGoals(p, id, t, next);
                default: return twoGoals(p, t, id, next);
            }
        }

        // rows of assoc operators

        /** A term as a row of this operator stands in line: none, if it is the id, one, if it is another term. */
        private void loadLine(int op, int term) {
            lineSize = 0;
            if (terms.head[term] == op + Terms.OPERATOR) {
                int many = Math.min(terms.rowSize(term), line.length);
                for (int k = 0; k < many; k++) {
                    line[k] = terms.rowAt(term, k);
                }
                lineSize = many;
            } else if (theory.unit(op) < 0 || terms.head[term] != theory.unit(op) + Terms.OPERATOR) {
                line[0] = term;
                lineSize = 1;
            }
        }

        private int startRow(int p, int t, int next, int alternative) {
            int op = terms.operatorOf(p);
            int items = terms.rowSize(p);
            loadLine(op, t);
            if (theory.unit(op) < 0 && lineSize < items) {
                return FAILS;
            }
            if (theory.isComm(op)) {
                return newGoal(p, t, items, (1 << lineSize) - 1, next);
            }
            boolean openHere = open && p == root;
            if (openHere) {
                aheadSize = alternative;
                more = alternative + 1 < lineSize ? alternative + 1 : -1;
            }
            return newGoal(p, t, items, openHere ? alternative : 0, next);
        }

        /** Whether an item of a row may stand for none or many of a row. */
        private boolean isLoose(int item) {
            return terms.isVariable(item) || (terms.vars[item] != 0L && theory.unit(terms.operatorOf(item)) >= 0);
        }

        private boolean isBound(int item) {
            return terms.isVariable(item) && bind[terms.head[item]] >= 0;
        }

        /** What is left to do when an item of a row has taken some of the line, as bits; a bound item is done. */
        private int afterItem(int goal, int item, int bits, int rest, boolean bound) {
            int p = goals[goal + PATTERN];
            int t = goals[goal + TERM];
            int list = newGoal(p, t, goals[goal + ITEMS] - 1, rest, goals[goal + NEXT]);
            if (list == FAILS || bound) {
                return list;
            }
            return newGoal(item, t, PART_OF - terms.operatorOf(p), bits, list);
        }

        /** The last of the items that are left takes any of what is left, as bits, of the line. */
        private int dealAny(int goal, int alternative) {
            int p = goals[goal + PATTERN];
            int items = goals[goal + ITEMS];
            int rest = goals[goal + REST];
            boolean openHere = open && p == root;
            if (items == 0) {
                left = rest;
                boolean ends = openHere ? rest != (1 << lineSize) - 1 : rest == 0;
                return ends ? goals[goal + NEXT] : FAILS;
            }
            int item = terms.rowAt(p, items - 1);
            boolean bound = isBound(item);
            int bits;
            if (bound) {
                bits = bitsOf(terms.operatorOf(p), bind[terms.head[item]], rest);
            } else if (!isLoose(item)) {
                bits = nextOne(item, rest, alternative);
            } else {
                boolean unit = theory.unit(terms.operatorOf(p)) >= 0;
                bits = nextBits(rest, items == 1 && !openHere ? rest : alternative, unit ? -1 : items - 1);
            }
            return bits < 0 ? FAILS : afterItem(goal, item, bits, rest & ~bits, bound);
        }

        /** Where what a variable stands for is in the rest of the line, or -1. */
        private int bitsOf(int op, int term, int rest) {
            boolean opened = terms.head[term] == op + Terms.OPERATOR;
            boolean none = theory.unit(op) >= 0 && terms.head[term] == theory.unit(op) + Terms.OPERATOR;
            int many = opened ? terms.rowSize(term) : none ? 0 : 1;
            int bits = 0;
            for (int k = 0; k < many; k++) {
                int element = opened ? terms.rowAt(term, k) : term;
                int bit = -1;
                for (int b = 0; b < lineSize && bit < 0; b++) {
                    bit = ((rest & ~bits) >> b & 1) != 0 && line[b] == element ? b : -1;
                }
                if (bit < 0) {
                    return -1;
                }
                bits |= 1 << bit;
            }
            return bits;
        }

        /** The next of the rest that an item of one term could be; of the same ones only the first counts. */
        private int nextOne(int item, int rest, int from) {
            for (int b = from; b < lineSize; b++) {
                boolean likeEarlier = b > 0 && (rest >> (b - 1) & 1) != 0 && line[b] == line[b - 1];
                boolean fits = terms.vars[item] == 0L ? line[b] == item : terms.head[line[b]] == terms.head[item];
                if ((rest >> b & 1) != 0 && fits && !likeEarlier) {
                    more = b + 1;
                    return 1 << b;
                }
            }
            return -1;
        }

        /** The next choice, as bits, of any of the rest, that leaves what others need (below 0: none may be taken). */
        private int nextBits(int rest, int from, int needed) {
            int same = 0;
            for (int b = 1; b < lineSize; b++) {
                same |= line[b] == line[b - 1] ? 1 << b : 0;
            }
            for (int bits = needed < 0 ? from : Math.max(from, 1); bits <= rest; bits++) {
                // of the same ones those ahead are taken first
                boolean inOrder = (bits & same & rest << 1 & ~(bits << 1)) == 0;
                if ((bits & ~rest) == 0 && inOrder && Integer.bitCount(rest & ~bits) >= needed) {
                    more = bits < rest ? bits + 1 : -1;
                    return bits;
                }
            }
            return -1;
        }

        /** The first of the items that are left takes some of the line from the place where it is left on. */
        private int dealInRow(int goal, int alternative) {
            int p = goals[goal + PATTERN];
            int items = goals[goal + ITEMS];
            int from = goals[goal + REST];
            int op = terms.operatorOf(p);
            boolean openHere = open && p == root;
            if (items == 0) {
                left = from;
                boolean ends = openHere ? from > aheadSize : from == lineSize;
                return ends ? goals[goal + NEXT] : FAILS;
            }
            int item = terms.rowAt(p, terms.rowSize(p) - items);
            boolean unit = theory.unit(op) >= 0;
            boolean bound = isBound(item);
            int size = 1;
            if (bound) {
                size = sizeIfSame(op, bind[terms.head[item]], from);
            } else if (isLoose(item)) {
                int most = lineSize - from - (unit ? 0 : items - 1);
                int least = items == 1 && !openHere ? most : 0;
                size = Math.max(alternative, unit ? least : Math.max(least, 1));
                more = size < most ? size + 1 : -1;
                size = size > most ? -1 : size;
            }
            if (size < 0 || from + size > lineSize) {
                return FAILS;
            }
            return afterItem(goal, item, (1 << (from + size)) - (1 << from), from + size, bound);
        }

        /** How many of the line what a variable stands for takes from a place on, or -1. */
        private int sizeIfSame(int op, int term, int from) {
            boolean opened = terms.head[term] == op + Terms.OPERATOR;
            boolean none = theory.unit(op) >= 0 && terms.head[term] == theory.unit(op) + Terms.OPERATOR;
            int size = opened ? terms.rowSize(term) : none ? 0 : 1;
            if (from + size > lineSize) {
                return -1;
            }
            for (int k = 0; k < size; k++) {
                if (line[from + k] != (opened ? terms.rowAt(term, k) : term)) {
                    return -1;
                }
            }
            return size;
        }

        /** The term that some of the line, as bits, are; -1: there is none. */
        private int taken(int op, int bits) {
            int n = 0;
            for (int b = 0; b < lineSize; b++) {
                if ((bits >> b & 1) != 0) {
                    terms.row[n] = line[b];
                    n++;
                }
            }
            if (n == 0) {
                return theory.unit(op) < 0 ? -1 : terms.intern(theory.unit(op) + Terms.OPERATOR, 0);
            }
            return n == 1 ? terms.row[0] : terms.intern(op + Terms.OPERATOR, n);
        }

        // looking ahead

        /** Whether the state in which a goal is met is seen to lead to no matcher. */
        private boolean isHopeless(int goal) {
            writeState(goal);
            if (outlook.isDeadEnd()) {
                return true;
            }
            outlook.tell(bind);
            for (int g = goal, n = 0; g != NIL && n < MOST_GOALS; g = goals[g + NEXT], n++) {
                if (!couldBeMet(g)) {
                    return true;
                }
            }
            return false;
        }

        private boolean couldBeMet(int goal) {
            int p = goals[goal + PATTERN];
            int t = goals[goal + TERM];
            int items = goals[goal + ITEMS];
            boolean openHere = open && p == root;
            if (items == WHOLE) {
                return openHere || outlook.allows(p, t);
            }
            if (items < 0) {
                return outlook.allowsPart(p, t, PART_OF - items, goals[goal + REST]);
            }
            return outlook.allowsRow(p, t, items, goals[goal + REST], openHere);
        }

        /** The state in which a goal is met: all goals that are left, and what their variables stand for. */
        private void writeState(int goal) {
            outlook.openState();
            long vars = 0L;
            for (int g = goal, n = 0; g != NIL && n < MOST_GOALS; g = goals[g + NEXT], n++) {
                outlook.put(goals[g + PATTERN]);
                outlook.put(goals[g + TERM]);
                outlook.put(goals[g + ITEMS]);
                outlook.put(goals[g + REST]);
                vars |= varsLeft(g);
            }
            outlook.put(aheadSize);
            for (int v = 0; v < VARIABLES && vars != 0L; v++, vars >>>= 1) {
                if ((vars & 1L) != 0L) {
                    outlook.put(bind[v]);
                }
            }
        }

        /** The variables of what is left to do of a goal. */
        private long varsLeft(int goal) {
            int p = goals[goal + PATTERN];
            int items = goals[goal + ITEMS];
            if (items < 0) {
                return terms.vars[p];
            }
            int from = theory.isComm(terms.operatorOf(p)) ? 0 : terms.rowSize(p) - items;
            long vars = 0L;
            for (int k = from; k < from + items; k++) {
                vars |= terms.vars[terms.rowAt(p, k)];
            }
            return vars;
        }

        // the list

        /** The matcher that was found stands in fresh then. */
        private void note() {
            int n = 0;
            long rest = terms.vars[root];
            for (int v = 0; v < VARIABLES && rest != 0L; v++, rest >>>= 1) {
                if ((rest & 1L) != 0L) {
                    fresh[n] = bind[v];
                    n++;
                }
            }
            fresh[n] = -1;
            fresh[n + 1] = -1;
            if (open) {
                int op = terms.operatorOf(root);
                loadLine(op, goals[TERM]);
                boolean any = theory.isComm(op);
                int behind = any ? left : (1 << lineSize) - (1 << left);
                int ahead = any ? 0 : (1 << aheadSize) - 1;
                fresh[n] = ahead == 0 ? -1 : taken(op, ahead);
                fresh[n + 1] = behind == 0 ? -1 : taken(op, behind);
            }
        }

        /** Puts the matcher that was found into the list, where it belongs, unless it is in it. */
        private void insert(int width) {
            int low = 0;
            int high = found;
            for (int n = 0; n < 32 && low < high; n++) {
                int middle = (low + high) / 2;
                int compared = compareFresh(top + middle * width, width);
                if (compared == 0) {
                    return;
                }
                if (compared < 0) {
                    high = middle;
                } else {
                    low = middle + 1;
                }
            }
            int at = top + low * width;
            int end = top + found * width;
            if (end + width > rows.length && rows.length < MOST_CELLS) {
                rows = Arrays.copyOf(rows, rows.length * 2);
            }
            if (found >= MOST_LISTED || end + width > rows.length) {
                counts.halt(2);
                return;
            }
            System.arraycopy(rows, at, rows, at + width, end - at);
            System.arraycopy(fresh, 0, rows, at, width);
            found++;
        }

        private int compareFresh(int at, int width) {
            for (int k = 0; k < width; k++) {
                int a = fresh[k];
                int b = rows[at + k];
                int compared = a == b ? 0 : k < width - 2 ? terms.compare(a, b) : compareBeside(a, b);
                if (compared != 0) {
                    return compared;
                }
            }
            return 0;
        }

        /** What stands beside the pattern: fewer come first. */
        private int compareBeside(int a, int b) {
            int many = a < 0 ? 0 : terms.head[a] == terms.head[root] ? terms.rowSize(a) : 1;
            int others = b < 0 ? 0 : terms.head[b] == terms.head[root] ? terms.rowSize(b) : 1;
            return many != others ? Integer.compare(many, others) : terms.compare(a, b);
        }
    }

    /**
     * Sees of a list that takes long that states lead to no matcher: those that led to none before, and those with goals
     * that could not be met, even if each place of a variable that stands for nothing could have a term of its own.
     */
    static final class Outlook {
        private static final int MOST_TARGETS = 64, MOST_ROWS = 20, PARTS = 64, WIDTH = 1 + MOST_ROWS, HOLES = 3;
        /** A dead end: the next one of its chain, its size, then the state. */
        private static final int STATE = 2, LONGEST_STATE = 512, CHAINS = 1024, FIRST_ENDS = 2048, MOST_ENDS = 262144;

        private final Theory theory;
        private final Terms terms;
        /** All terms in the pattern by number, so that those in a row come ahead of it; and where those in their rows stand. */
        private final int[] list = new int[Terms.MOST_SIZE];
        private int size;
        private final int[] inner = new int[Terms.MOST_SIZE];
        private final int[] innerAt = new int[Terms.MOST_SIZE + 1];
        /** What they could become: terms in the term, ids of operators in the pattern; and where those in their rows stand. */
        private final int[] targets = new int[MOST_TARGETS];
        private int targetCount;
        private final int[] targetInner = new int[MOST_TARGETS * HOLES];
        /** For each term in the pattern the target that is the id of its operator, or -1. */
        private final int[] unitAt = new int[Terms.MOST_SIZE];
        /** The targets that are rows of assoc operators; for their parts, as bits, the terms that they are, and the targets; or -1. */
        private final int[] rows = new int[MOST_ROWS];
        private int rowCount;
        private final int[] parts = new int[MOST_ROWS * PARTS];
        private final int[] partAt = new int[MOST_ROWS * PARTS];
        /** For each term in the pattern which targets it could be, as bits, then which parts of each row; if variables stand for nothing. */
        private final long[] may = new long[Terms.MOST_SIZE * WIDTH];
        private final long[] free = new long[Terms.MOST_SIZE * WIDTH];
        /** For each part those that can be taken besides it, as bits; then those that can stand ahead of it. */
        private final long[] beside = new long[2 * PARTS];
        /** Where chains of dead ends begin, then one behind the other up to endTop (0: there is none yet), then a state. */
        private int[] ends = new int[FIRST_ENDS];
        private int endTop;
        private int stateSize;

        Outlook(Theory theory, Terms terms) {
            this.theory = theory;
            this.terms = terms;
            for (int part = 0; part < PARTS; part++) {
                for (int other = 0; other < PARTS; other++) {
                    boolean ahead = part == 0 || other == 0 || other + (other & -other) == (part & -part);
                    beside[part] |= (part & other) == 0 ? 1L << other : 0L;
                    beside[PARTS + part] |= ahead ? 1L << other : 0L;
                }
            }
        }

        /** Another list begins. */
        void close() {
            size = 0;
            endTop = 0;
        }

        /** The pattern and the term of a list, unless they are known already. */
        void open(int pattern, int term) {
            if (size > 0) {
                return;
            }
            size = terms.collect(pattern, list);
            targetCount = terms.collect(term, targets);
            for (int k = 0; k < size; k++) {
                unitAt[k] = terms.isVariable(list[k]) ? -1 : unitTarget(theory.unit(terms.operatorOf(list[k])));
            }
            tellInner();
            rowCount = 0;
            for (int i = 0; i < targetCount; i++) {
                addRow(i);
            }
            for (int k = 0; k < size; k++) {
                if (terms.isVariable(list[k])) {
                    tellFree(k);
                } else if (terms.vars[list[k]] == 0L) {
                    tellValue(k, list[k]);
                }
            }
        }

        private int unitTarget(int op) {
            int id = op < 0 ? -1 : terms.intern(op + Terms.OPERATOR, 0);
            int index = id < 0 ? -1 : Terms.indexOf(targets, targetCount, id);
            if (id >= 0 && index < 0 && targetCount < MOST_TARGETS) {
                index = targetCount;
                targets[targetCount] = id;
                targetCount++;
            }
            return index;
        }

        private void tellInner() {
            int n = 0;
            for (int k = 0; k < size; k++) {
                innerAt[k] = n;
                for (int j = 0; j < terms.rowSize(list[k]) && n < inner.length; j++) {
                    inner[n] = Math.max(Terms.indexOf(list, size, terms.rowAt(list[k], j)), 0);
                    n++;
                }
            }
            innerAt[size] = n;
            for (int i = 0; i < targetCount; i++) {
                for (int j = 0; j < HOLES && j < terms.rowSize(targets[i]); j++) {
                    targetInner[i * HOLES + j] = Math.max(Terms.indexOf(targets, targetCount, terms.rowAt(targets[i], j)), 0);
                }
            }
        }

        /** A target that is a row of an assoc operator in the pattern (so that it is not too long) has parts. */
        private void addRow(int target) {
            int term = targets[target];
            int many = terms.rowSize(term);
            boolean assoc = !terms.isVariable(term) && theory.isAssoc(terms.operatorOf(term));
            if (!assoc || !isInPattern(terms.head[term]) || many > Matcher.WIDEST || rowCount >= MOST_ROWS) {
                return;
            }
            boolean any = theory.isComm(terms.operatorOf(term));
            int unit = theory.unit(terms.operatorOf(term));
            for (int part = 0; part < PARTS; part++) {
                // of a row in order only what stands side by side is a part
                boolean there = part < 1 << many && (any || (part & part + (part & -part)) == 0);
                int n = loadPart(term, part);
                int top = n > 0 ? terms.head[term] : unit + Terms.OPERATOR;
                int made = !there || (n == 0 && unit < 0) ? -1 : n == 1 ? terms.row[0] : terms.intern(top, n);
                parts[rowCount * PARTS + part] = made;
                partAt[rowCount * PARTS + part] = made < 0 ? -1 : Terms.indexOf(targets, targetCount, made);
            }
            rows[rowCount] = target;
            rowCount++;
        }

        private boolean isInPattern(int head) {
            for (int k = 0; k < size; k++) {
                if (terms.head[list[k]] == head) {
                    return true;
                }
            }
            return false;
        }

        /** Some of a row, as bits, stand in the row of the term that is being made then: how many. */
        private int loadPart(int term, int part) {
            int n = 0;
            for (int k = 0; k < terms.rowSize(term); k++) {
                if ((part >> k & 1) != 0) {
                    terms.row[n] = terms.rowAt(term, k);
                    n++;
                }
            }
            return n;
        }

        /** A variable that stands for nothing could be all that its sort takes. */
        private void tellFree(int k) {
            int sort = theory.variableSort[terms.head[list[k]] % Theory.MOST_VARIABLES];
            long bits = 0L;
            for (int i = 0; i < targetCount; i++) {
                bits |= isOfSort(targets[i], sort) ? 1L << i : 0L;
            }
            free[k * WIDTH] = bits;
            for (int r = 0; r < rowCount; r++) {
                bits = 0L;
                for (int part = 0; part < PARTS; part++) {
                    bits |= isOfSort(parts[r * PARTS + part], sort) ? 1L << part : 0L;
                }
                free[k * WIDTH + 1 + r] = bits;
            }
        }

        private boolean isOfSort(int term, int sort) {
            return term >= 0 && terms.leastOf(term) >= 0 && theory.isBelow(terms.leastOf(term), sort);
        }

        /** A term in the pattern is this one. */
        private void tellValue(int k, int value) {
            int index = Terms.indexOf(targets, targetCount, value);
            may[k * WIDTH] = index < 0 ? 0L : 1L << index;
            for (int r = 0; r < rowCount; r++) {
                long bits = 0L;
                for (int part = 0; part < PARTS; part++) {
                    bits |= parts[r * PARTS + part] == value ? 1L << part : 0L;
                }
                may[k * WIDTH + 1 + r] = bits;
            }
        }

        /** What variables stand for by now; and what all terms in the pattern could be then. */
        void tell(int[] bind) {
            for (int k = 0; k < size; k++) {
                int term = list[k];
                if (terms.isVariable(term) && bind[terms.head[term]] < 0) {
                    System.arraycopy(free, k * WIDTH, may, k * WIDTH, WIDTH);
                } else if (terms.isVariable(term)) {
                    tellValue(k, bind[terms.head[term]]);
                } else if (terms.vars[term] != 0L) {
                    tellRow(k);
                }
            }
        }

        private void tellRow(int k) {
            int term = list[k];
            int at = k * WIDTH;
            boolean assoc = theory.isAssoc(terms.operatorOf(term));
            boolean comm = theory.isComm(terms.operatorOf(term));
            may[at] = assoc ? 0L : sameRows(k, comm);
            for (int r = 0; r < rowCount; r++) {
                int row = targets[rows[r]];
                boolean joined = assoc && terms.head[row] == terms.head[term];
                long bits = joined ? partsJoined(r, comm, innerAt[k], innerAt[k + 1]) : 0L;
                may[at + 1 + r] = bits;
                may[at] |= (bits >>> (1 << terms.rowSize(row)) - 1 & 1L) << rows[r];
            }
            if (theory.unit(terms.operatorOf(term)) >= 0) {
                tellLeftAlone(k);
            }
            for (int r = 0; r < rowCount; r++) {
                for (int part = 0; part < PARTS; part++) {
                    int index = partAt[r * PARTS + part];
                    may[at + 1 + r] |= index >= 0 && (may[at] >>> index & 1L) != 0L ? 1L << part : 0L;
                }
            }
        }

        /** The targets of the same operator, which is not assoc, whose rows the terms in a row could be. */
        private long sameRows(int k, boolean comm) {
            int head = terms.head[list[k]];
            int many = Math.min(innerAt[k + 1] - innerAt[k], HOLES);
            long bits = 0L;
            for (int i = 0; i < targetCount; i++) {
                boolean straight = terms.head[targets[i]] == head;
                boolean turned = straight && comm;
                for (int j = 0; j < many && (straight || turned); j++) {
                    long here = may[inner[innerAt[k] + j] * WIDTH];
                    straight = straight && (here >>> targetInner[i * HOLES + j] & 1L) != 0L;
                    turned = turned && (here >>> targetInner[i * HOLES + many - 1 - j] & 1L) != 0L;
                }
                bits |= straight || turned ? 1L << i : 0L;
            }
            return bits;
        }

        /** The parts of a row (any, if it is comm) that terms side by side in a row of the pattern could be together. */
        private long partsJoined(int r, boolean any, int from, int to) {
            int order = any ? 0 : PARTS;
            long all = 1L;
            for (int j = from; j < to && all != 0L; j++) {
                long bits = may[inner[j] * WIDTH + 1 + r];
                long next = 0L;
                for (int part = 0; part < PARTS; part++) {
                    next |= (bits >>> part & 1L) == 0L ? 0L : (all & beside[order + part]) << part;
                }
                all = next;
            }
            return all;
        }

        /** One of a row is left alone, if all others can be the id. */
        private void tellLeftAlone(int k) {
            int others = 0;
            int stays = -1;
            for (int j = innerAt[k]; j < innerAt[k + 1] && unitAt[k] >= 0; j++) {
                if ((may[inner[j] * WIDTH] >>> unitAt[k] & 1L) == 0L) {
                    others++;
                    stays = j;
                }
            }
            for (int j = innerAt[k]; j < innerAt[k + 1]; j++) {
                for (int w = 0; w <= rowCount && (others == 0 || (others == 1 && j == stays)); w++) {
                    may[k * WIDTH + w] |= may[inner[j] * WIDTH + w];
                }
            }
        }

        // whether goals could be met

        /** Whether a term in the pattern could become a term. */
        boolean allows(int pattern, int term) {
            int k = Terms.indexOf(list, size, pattern);
            int index = Terms.indexOf(targets, targetCount, term);
            if (k < 0) {
                return true;
            }
            if (index >= 0) {
                return (may[k * WIDTH] >>> index & 1L) != 0L;
            }
            int part = Terms.indexOf(parts, rowCount * PARTS, term);
            return part < 0 || (may[k * WIDTH + 1 + part / PARTS] >>> part % PARTS & 1L) != 0L;
        }

        /** The number of a term as a row of an operator, or -1. */
        private int rowOf(int term, int head) {
            for (int r = 0; r < rowCount; r++) {
                if (targets[rows[r]] == term && terms.head[term] == head) {
                    return r;
                }
            }
            return -1;
        }

        /** Whether a term in the pattern could become a part of a row of an operator. */
        boolean allowsPart(int pattern, int term, int op, int part) {
            int k = Terms.indexOf(list, size, pattern);
            int r = rowOf(term, op + Terms.OPERATOR);
            return k < 0 || r < 0 || (may[k * WIDTH + 1 + r] >>> part & 1L) != 0L;
        }

        /** Whether the items that are left of a row in the pattern could become what is left of a row, or some of that. */
        boolean allowsRow(int pattern, int term, int items, int rest, boolean some) {
            int k = Terms.indexOf(list, size, pattern);
            int r = rowOf(term, terms.head[pattern]);
            if (k < 0 || r < 0) {
                return true;
            }
            boolean any = theory.isComm(terms.operatorOf(pattern));
            int left = any ? rest : (1 << terms.rowSize(term)) - (1 << rest);
            int from = any ? innerAt[k] : innerAt[k + 1] - items;
            long bits = partsJoined(r, any, from, from + items);
            if (!some) {
                return (bits >>> left & 1L) != 0L;
            }
            for (int part = 0; part <= left; part++) {
                boolean begins = any || part == 0 || (part & -part) == 1 << rest;
                if ((part & ~left) == 0 && begins && (bits >>> part & 1L) != 0L) {
                    return true;
                }
            }
            return false;
        }

        // dead ends

        /** A state is written down behind the dead ends; when there is no more room these are forgotten: they only save work. */
        void openState() {
            stateSize = 0;
            if (endTop > 0 && endTop + STATE + LONGEST_STATE > ends.length && ends.length < MOST_ENDS) {
                ends = Arrays.copyOf(ends, ends.length * 2);
            }
            if (endTop == 0 || endTop + STATE + LONGEST_STATE > ends.length) {
                Arrays.fill(ends, 0, CHAINS, -1);
                endTop = CHAINS;
            }
        }

        void put(int number) {
            if (stateSize < LONGEST_STATE) {
                ends[endTop + STATE + stateSize] = number;
            }
            stateSize++;
        }

        private int chainOfState() {
            int sum = stateSize;
            for (int k = 0; k < stateSize; k++) {
                sum = sum * 1000003 + ends[endTop + STATE + k];
            }
            return (sum ^ sum >>> 13) & (CHAINS - 1);
        }

        /** Whether the state that was written down is a dead end. */
        boolean isDeadEnd() {
            if (stateSize > LONGEST_STATE) {
                return false;
            }
            for (int end = ends[chainOfState()], n = 0; end >= 0 && n < MOST_ENDS; end = ends[end], n++) {
                boolean same = ends[end + 1] == stateSize;
                for (int k = STATE; k < STATE + stateSize && same; k++) {
                    same = ends[end + k] == ends[endTop + k];
                }
                if (same) {
                    return true;
                }
            }
            return false;
        }

        void keepDeadEnd() {
            if (stateSize > LONGEST_STATE) {
                return;
            }
            int chain = chainOfState();
            ends[endTop] = ends[chain];
            ends[endTop + 1] = stateSize;
            ends[chain] = endTop;
            endTop += STATE + stateSize;
        }
    }

    /** Brings terms to REST by equations, and looks for the ways in which a C holds. */
    static final class Runner {
        static final int DEEPEST = 60, RULE_SLOT = 61, ANY_LABEL = -1;
        private static final int HALTED = Counts.HALTED, UNKNOWN = -2;
        private static final int SLOTS = 62, VARIABLES = Theory.MOST_VARIABLES, MOST_CHAIN = 4096, MOST_WAYS = 1000000;
        /**
         * For each depth, and for rules, a slot: which statement comes next (of rules with a LABEL), the one that is
         * tried, its list of matchers, what is beside the one that is tried, and how many parts of its C hold.
         */
        private static final int UPCOMING = 0, LABEL = 1, STATEMENT = 2, BASE = 3, FOUND = 4, AT = 5, AHEAD = 6, BEHIND = 7, HELD = 8;
        /** And the lists of the parts of its C: where each one begins, how many it has, the next one. */
        private static final int LISTS = 9, LIST = 3, FIELDS = LISTS + Syntax.MOST_PARTS * LIST;

        private final Theory theory;
        private final Terms terms;
        final Matcher matcher;
        final Counts counts;
        /** The number of the call, or the pair, in which terms come to REST. */
        private int now;
        private final int[] chain = new int[MOST_CHAIN];
        private int chainTop;
        /** For each depth what the variables stand for. */
        final int[] values = new int[SLOTS * VARIABLES];
        private final int[] frame = new int[SLOTS * FIELDS];

        Runner(Theory theory, Terms terms, Matcher matcher, Counts counts) {
            this.theory = theory;
            this.terms = terms;
            this.matcher = matcher;
            this.counts = counts;
        }

        /** Nothing is at REST yet. */
        void begin() {
            now++;
            chainTop = 0;
            matcher.begin();
            terms.argTop = 0;
        }

        private int restOf(int term) {
            return terms.stamp[term] == now ? terms.rest[term] : -1;
        }

        private void chainUp(int term) {
            if (chainTop < MOST_CHAIN) {
                chain[chainTop] = term;
                chainTop++;
            }
        }

        /** All terms of the chain from its base on came to this one. */
        private int settle(int base, int term) {
            for (int k = base; k < chainTop; k++) {
                terms.rest[chain[k]] = term;
                terms.stamp[chain[k]] = now;
            }
            chainTop = base;
            return term;
        }

        /** What a term is REDUCED to so deep in REDUCING, or HALTED. */
        private int restFrom(int term, int depth) {
            int known = knownRest(term, depth);
            if (known != UNKNOWN) {
                return known;
            }
            int base = chainTop;
            int current = term;
            for (int n = 0; n <= Counts.MOST_STEPS + 1; n++) {
                chainUp(current);
                int args = terms.argTop;
                int many = terms.rowSize(current);
                for (int k = 0; k < many; k++) {
                    int inner = restFrom(terms.rowAt(current, k), depth + 1);
                    if (inner < 0) {
                        return HALTED;
                    }
                    terms.push(inner);
                }
                current = remade(current, args);
                if (current < 0) {
                    return HALTED;
                }
                int end = restOf(current);
                if (end < 0) {
                    chainUp(current);
                    end = current;
                    openSlot(depth, ANY_LABEL);
                    if (nextWay(depth, current, depth + 1)) {
                        current = madeBy(depth);
                        end = current < 0 || !counts.addStep() ? HALTED : terms.isVariable(current) ? current : restOf(current);
                    }
                    matcher.top = frame[depth * FIELDS + BASE];
                }
                if (counts.stop != 0) {
                    return HALTED;
                }
                if (end >= 0) {
                    return settle(base, end);
                }
            }
            return counts.halt(1);
        }

        /** What needs no work: a variable, what is at REST already, and what is too deep. */
        private int knownRest(int term, int depth) {
            if (term < 0 || terms.isVariable(term)) {
                return term;
            }
            int end = restOf(term);
            if (end >= 0) {
                return end;
            }
            return depth > DEEPEST ? counts.halt(5) : UNKNOWN;
        }

        /** A term over the row that was pushed from args on. */
        private int remade(int term, int args) {
            int many = terms.rowSize(term);
            boolean same = true;
            for (int k = 0; k < many && same; k++) {
                same = terms.pushedAt(args + k) == terms.rowAt(term, k);
            }
            int made = same ? term : terms.make(terms.operatorOf(term), args, many);
            terms.argTop = args;
            return made < 0 ? counts.halt(6) : made;
        }

        /** Equations are tried in a slot from the first one on; in that of rules the rules (with a LABEL). */
        private void openSlot(int slot, int label) {
            int f = slot * FIELDS;
            frame[f + UPCOMING] = 0;
            frame[f + LABEL] = label;
            frame[f + BASE] = matcher.top;
            frame[f + FOUND] = 0;
            frame[f + AT] = 0;
            frame[f + HELD] = 0;
        }

        /**
         * Goes on to the next way in which the next matcher of a statement with a term, all in their order, makes its C
         * hold; T and U of C are so deep. False: there is none, or it is stopped.
         */
        private boolean nextWay(int slot, int term, int depth) {
            int f = slot * FIELDS;
            int k = retry(slot, frame[f + HELD]);
            for (int n = 0; n < MOST_WAYS && counts.stop == 0; n++) {
                if (k < 0 && frame[f + AT] >= frame[f + FOUND]) {
                    int pattern = nextLeft(slot);
                    if (pattern < 0) {
                        return false;
                    }
                    frame[f + FOUND] = matcher.list(pattern, term, true, 0L, values, 0);
                    continue;
                }
                if (k < 0) {
                    load(slot);
                    k = 0;
                }
                int s = frame[f + STATEMENT];
                frame[f + HELD] = k;
                if (k >= theory.told(s, Theory.PART_COUNT)) {
                    return true;
                }
                int p = theory.told(s, Theory.FIRST_PART) + k;
                int sign = theory.toldPart(p, Theory.SIGN);
                int t = theory.toldPart(p, Theory.T);
                int u = theory.toldPart(p, Theory.U);
                int first = sign == Words.TAKES ? 0 : restFrom(filled(t, slot, 0), depth);
                int second = sign == Words.COLON || first < 0 ? 0
                        : restFrom(filled(u, slot, sign == Words.TAKES ? terms.sizeOf(t) : 0), depth);
                if (first < 0 || second < 0) {
                    return false;
                }
                if (sign == Words.TAKES) {
                    int list = f + LISTS + k * LIST;
                    frame[list] = matcher.top;
                    frame[list + 1] = matcher.list(t, second, false, theory.toldPart(p, Theory.KNOWN), values, slot * VARIABLES);
                    frame[list + 2] = 0;
                    k = retry(slot, k + 1);
                } else {
                    boolean holds = sign == Words.EQUAL ? first == second : isOfSort(first, u);
                    k = holds ? k + 1 : retry(slot, k);
                }
            }
            return false;
        }

        private boolean isOfSort(int term, int sort) {
            return terms.leastOf(term) >= 0 && theory.isBelow(terms.leastOf(term), sort);
        }

        /** On to the next statement of a slot: its left side, or -1. */
        private int nextLeft(int slot) {
            int f = slot * FIELDS;
            boolean rules = slot == RULE_SLOT;
            int many = rules ? theory.rules : theory.equations;
            matcher.top = frame[f + BASE];
            for (int n = frame[f + UPCOMING]; n < many; n++) {
                int s = rules ? Theory.MOST_EQUATIONS + n : theory.tried[n];
                if (frame[f + LABEL] == ANY_LABEL || frame[f + LABEL] == theory.told(s, Theory.LABEL)) {
                    frame[f + UPCOMING] = n + 1;
                    frame[f + STATEMENT] = s;
                    frame[f + AT] = 0;
                    return theory.told(s, Theory.LEFT);
                }
            }
            frame[f + UPCOMING] = many;
            return -1;
        }

        /** The next matcher of the list of a slot's statement is the one that is tried. */
        private void load(int slot) {
            int f = slot * FIELDS;
            int pattern = theory.told(frame[f + STATEMENT], Theory.LEFT);
            int next = loadValues(pattern, frame[f + BASE] + frame[f + AT] * matcher.widthOf(pattern), slot);
            frame[f + AHEAD] = matcher.rows[next];
            frame[f + BEHIND] = matcher.rows[next + 1];
            frame[f + AT]++;
        }

        private int loadValues(int pattern, int row, int slot) {
            int next = row;
            long rest = terms.vars[pattern];
            for (int v = 0; v < VARIABLES && rest != 0L; v++, rest >>>= 1) {
                if ((rest & 1L) != 0L) {
                    values[slot * VARIABLES + v] = matcher.rows[next];
                    next++;
                }
            }
            return next;
        }

        /** Back from part k to the last T := U ahead of it that has another matcher: the part behind that, or -1. */
        private int retry(int slot, int k) {
            int f = slot * FIELDS;
            for (int j = k - 1; j >= 0; j--) {
                int p = theory.told(frame[f + STATEMENT], Theory.FIRST_PART) + j;
                if (theory.toldPart(p, Theory.SIGN) != Words.TAKES) {
                    continue;
                }
                int list = f + LISTS + j * LIST;
                int pattern = theory.toldPart(p, Theory.T);
                if (frame[list + 2] < frame[list + 1]) {
                    loadValues(pattern, frame[list] + frame[list + 2] * matcher.widthOf(pattern), slot);
                    frame[list + 2]++;
                    return j + 1;
                }
                matcher.top = frame[list];
            }
            return -1;
        }

        /** The right side of a slot's statement with its matcher, and with what was beside it; or HALTED. */
        int madeBy(int slot) {
            int s = frame[slot * FIELDS + STATEMENT];
            int made = filled(theory.told(s, Theory.RIGHT), slot, 0);
            int ahead = frame[slot * FIELDS + AHEAD];
            int behind = frame[slot * FIELDS + BEHIND];
            if (made < 0 || (ahead < 0 && behind < 0)) {
                return made;
            }
            int args = terms.argTop;
            if (ahead >= 0) {
                terms.push(ahead);
            }
            terms.push(made);
            if (behind >= 0) {
                terms.push(behind);
            }
            made = terms.make(terms.operatorOf(theory.told(s, Theory.LEFT)), args, terms.argTop - args);
            terms.argTop = args;
            return made < 0 ? counts.halt(6) : made;
        }

        /** A side of a statement or part with a slot's matcher; what is filled besides counts, too. */
        private int filled(int term, int slot, int besides) {
            if (!counts.addFilled(terms.sizeOf(term) + besides)) {
                return HALTED;
            }
            int made = terms.fill(term, values, slot * VARIABLES);
            return made < 0 ? counts.halt(6) : made;
        }

        /** The rule that is tried. */
        int ruleTried() {
            return frame[RULE_SLOT * FIELDS + STATEMENT] - Theory.MOST_EQUATIONS;
        }
    }

    /** The RESULTS: matchers, steps, states, or what a strategy answers. */
    static final class Results {
        static final int NOTHING = 0, MATCHERS = 1, STEPS = 2, STATES = 3, ANSWERS = 4;
        static final int MOST_STATES = 120, MOST_EDGES = 700;
        private static final int FIRST_CELLS = 1024;

        int kind;
        int size;
        final int[] term = new int[Matcher.MOST_LISTED];
        final int[] from = new int[MOST_STATES];
        final int[] rule = new int[MOST_STATES];
        final int[] far = new int[MOST_STATES];
        /** For each state the states to which its steps lead stand in edges from here on. */
        final int[] edgeAt = new int[MOST_STATES + 1];
        final int[] edges = new int[MOST_EDGES];
        private int[] rows = new int[FIRST_CELLS];
        private long vars;
        final boolean[] isFirst = new boolean[MOST_STATES];
        final boolean[] isSecond = new boolean[MOST_STATES];
        private final boolean[] safe = new boolean[MOST_STATES];

        void clear() {
            kind = NOTHING;
            size = 0;
        }

        void keepMatchers(long variables, int many, int[] list) {
            kind = MATCHERS;
            size = many;
            vars = variables;
            if (many * width() > rows.length) {
                rows = new int[Math.max(many * width(), rows.length * 2)];
            }
            System.arraycopy(list, 0, rows, 0, many * width());
        }

        private int width() {
            return Long.bitCount(vars) + 2;
        }

        void keepTerms(int what, int[] list, int many) {
            kind = what;
            size = many;
            System.arraycopy(list, 0, term, 0, many);
        }

        void keepSteps(int[] list, int[] rules, int many) {
            keepTerms(STEPS, list, many);
            System.arraycopy(rules, 0, rule, 0, many);
        }

        /** What a matcher has for a variable; -1, -2: what is ahead, behind; below 0: nothing. */
        int boundTo(int i, int v) {
            int at = i * width();
            if (v < 0) {
                return rows[at + width() + (v == -1 ? -2 : -1)];
            }
            if ((vars >> v & 1L) == 0L) {
                return -1;
            }
            return rows[at + Long.bitCount(vars & (1L << v) - 1L)];
        }

        /** A term at REST is STATE 0; there is none, if it was stopped. */
        void openStates(int first) {
            kind = STATES;
            size = first < 0 ? 0 : 1;
            term[0] = first;
            from[0] = -1;
            rule[0] = -1;
            far[0] = 0;
            edgeAt[0] = 0;
        }

        /** The steps of state k, the first one that has none yet; false: too many states. */
        boolean addSteps(int k, int[] steps, int[] rules, int many) {
            int edge = edgeAt[k];
            for (int i = 0; i < many; i++) {
                int state = 0;
                for (int n = 0; n < size && term[state] != steps[i]; n++) {
                    state++;
                }
                if (state >= MOST_STATES || edge >= MOST_EDGES) {
                    return false;
                }
                if (state == size) {
                    term[state] = steps[i];
                    from[state] = k;
                    rule[state] = rules[i];
                    far[state] = far[k] + 1;
                    size++;
                }
                edges[edge] = state;
                edge++;
            }
            edgeAt[k + 1] = edge;
            return true;
        }

        /** The state that breaks a law first, or -1. */
        int firstBreak(int law) {
            if (law >= 2) {
                findSafe(law == 2 ? isFirst : isSecond);
            }
            int last = law == 2 ? 1 : size;
            for (int k = 0; k < last; k++) {
                boolean breaks = law == 0 ? !isFirst[k] : law == 1 ? isFirst[k] : !safe[k];
                if (breaks && (law != 3 || isFirst[k])) {
                    return k;
                }
            }
            return -1;
        }

        /** A state is safe if it is a goal, or has steps, all of which lead to safe ones. */
        private void findSafe(boolean[] goal) {
            for (int k = 0; k < size; k++) {
                safe[k] = goal[k];
            }
            boolean changed = true;
            for (int round = 0; round <= size && changed; round++) {
                changed = false;
                for (int k = 0; k < size; k++) {
                    if (!safe[k] && leadsToSafe(k)) {
                        safe[k] = true;
                        changed = true;
                    }
                }
            }
        }

        private boolean leadsToSafe(int k) {
            for (int e = edgeAt[k]; e < edgeAt[k + 1]; e++) {
                if (!safe[edges[e]]) {
                    return false;
                }
            }
            return edgeAt[k + 1] > edgeAt[k];
        }

        void markTerms(Terms terms) {
            if (kind == MATCHERS) {
                for (int k = 0; k < size * width(); k++) {
                    terms.mark(rows[k]);
                }
                return;
            }
            for (int k = 0; k < size; k++) {
                terms.mark(term[k]);
            }
        }

        void moveTerms(Terms terms) {
            if (kind == MATCHERS) {
                for (int k = 0; k < size * width(); k++) {
                    rows[k] = terms.moved(rows[k]);
                }
                return;
            }
            for (int k = 0; k < size; k++) {
                term[k] = terms.moved(term[k]);
            }
        }
    }

    /** STEPS BY RULES, STATES, and strategies. */
    static final class Ways {
        private static final int MOST_LISTED = 60, MOST_WORDS = 60, MOST_LIST_CELLS = 8192;
        private static final int OR = 0, THEN = 1, STAR = 2, BANG = 3, NOT = 4, ONE = 5, IDLE = 6, FAIL = 7, STEPS = 8;
        /** What a bracket of a strategy is, if it is not behind NOT or ONE. */
        private static final int PLAIN = 9, WHOLE = 10;
        private static final int FAULTY = -1, AWAITED = -2;

        private final Syntax syntax;
        private final Theory theory;
        private final Terms terms;
        private final Runner runner;
        private final Matcher matcher;
        private final Counts counts;
        final int[] stepTerm = new int[MOST_LISTED];
        final int[] stepRule = new int[MOST_LISTED];
        int stepCount;
        /** A strategy: for each node what it is, and one or two nodes (or a LABEL). */
        private final int[] nodes = new int[3 * (2 * MOST_WORDS + 2)];
        private int nodeTop;
        /** The brackets that are open: what each is, and the nodes that stand in it so far: ahead of the last |, of the last ; */
        private final int[] brackets = new int[3 * (MOST_WORDS + 2)];
        private int bracketTop;
        /** The answers that are being worked out, list behind list; and whether a term had none. */
        final int[] lists = new int[MOST_LIST_CELLS];
        private final boolean[] ended = new boolean[MOST_LIST_CELLS];
        int listTop;

        Ways(Syntax syntax, Theory theory, Terms terms, Runner runner) {
            this.syntax = syntax;
            this.theory = theory;
            this.terms = terms;
            this.runner = runner;
            this.matcher = runner.matcher;
            this.counts = runner.counts;
        }

        // steps

        /** Lists the STEPS BY RULES (with a LABEL) of a term at REST; false: stopped. */
        boolean listSteps(int term, int label) {
            stepCount = 0;
            terms.openPlaces(term);
            boolean there = true;
            for (int n = 0; n <= Terms.MOST_SIZE && there; n++) {
                runner.openSlot(Runner.RULE_SLOT, label);
                boolean goes = runner.nextWay(Runner.RULE_SLOT, terms.termHere(), 1);
                for (int m = 0; m <= Counts.MOST_STEPS && goes; m++) {
                    goes = addStep() && runner.nextWay(Runner.RULE_SLOT, terms.termHere(), 1);
                }
                there = counts.stop == 0 && terms.nextPlace();
            }
            return counts.stop == 0;
        }

        /** What a rule makes, all of it REDUCED, is a step, unless it is one already. */
        private boolean addStep() {
            int made = runner.madeBy(Runner.RULE_SLOT);
            made = made < 0 ? made : terms.wholeWith(made);
            if (made < 0 || !counts.addFilled(terms.sizeOf(made))) {
                return counts.halt(6) >= 0;
            }
            int end = runner.restFrom(made, 0);
            if (end < 0 || !counts.addStep()) {
                return false;
            }
            for (int k = 0; k < stepCount; k++) {
                if (stepTerm[k] == end) {
                    return true;
                }
            }
            if (stepCount >= MOST_LISTED) {
                return counts.halt(2) >= 0;
            }
            stepTerm[stepCount] = end;
            stepRule[stepCount] = runner.ruleTried();
            stepCount++;
            return true;
        }

        // states

        /** Marks which states from one on are a pattern, all or up to the first that is: where it ended; -1: stopped. */
        int markStates(Results states, int pattern, int from, boolean all, boolean[] marks) {
            int kind = terms.kindOf(pattern);
            for (int k = from; k < states.size; k++) {
                int state = states.term[k];
                matcher.top = 0;
                int found = terms.kindOf(state) == kind ? matcher.list(pattern, state, false, 0L, runner.values, 0) : 0;
                if (found < 0) {
                    return -1;
                }
                marks[k] = found > 0;
                if (found > 0 && !all) {
                    return k;
                }
            }
            return states.size;
        }

        // strategies as texts

        /** The tape as a strategy: its node, or FAULTY. Brackets are kept in a row, so that no call stands open for each. */
        int readPlan() {
            syntax.open(false, MOST_WORDS);
            nodeTop = 0;
            bracketTop = 0;
            int node = openBracket(WHOLE);
            for (int n = 0; n <= MOST_WORDS && (node == AWAITED || (node >= 0 && syntax.word != Syntax.END)); n++) {
                node = node == AWAITED ? readSingle() : readBehind(node);
            }
            if (node < 0) {
                return FAULTY;
            }
            return brackets[bracketTop] == WHOLE ? joined(node) : faulty();
        }

        private int faulty() {
            syntax.wrong();
            return FAULTY;
        }

        private int newNode(int what, int a, int b) {
            if (nodeTop + 3 > nodes.length || a == FAULTY || b == FAULTY) {
                return FAULTY;
            }
            int node = nodeTop;
            nodes[node] = what;
            nodes[node + 1] = a;
            nodes[node + 2] = b;
            nodeTop += 3;
            return node;
        }

        /** What one WORD is by itself; or AWAITED: behind a bracket that is opened. */
        private int readSingle() {
            int word = syntax.word;
            switch (word) {
                case Words.IDLE: return syntax.take() ? newNode(IDLE, 0, 0) : FAULTY;
                case Words.FAIL: return syntax.take() ? newNode(FAIL, 0, 0) : FAULTY;
                case Words.ALL: return syntax.take() ? newNode(STEPS, 0, 0) : FAULTY;
                case Words.NOT: return readAhead(word, NOT);
                case Words.ONE: return readAhead(word, ONE);
                case Words.OPEN: return syntax.take() ? openBracket(PLAIN) : FAULTY;
                default: break;
            }
            if (!syntax.isPlain() || !isLabel(word)) {
                return faulty();
            }
            return syntax.take() ? newNode(STEPS, word + 1, 0) : FAULTY;
        }

        /** The WORD not or one opens the bracket behind it; without one it is a LABEL, if a rule has it. */
        private int readAhead(int word, int what) {
            if (!syntax.take()) {
                return FAULTY;
            }
            if (syntax.word != Words.OPEN && isLabel(word)) {
                return newNode(STEPS, word + 1, 0);
            }
            return syntax.takeWord(Words.OPEN) ? openBracket(what) : FAULTY;
        }

        /** What a node is with the WORD behind it; or AWAITED: another one has to come. */
        private int readBehind(int node) {
            switch (syntax.word) {
                case Words.STAR: return syntax.take() ? newNode(STAR, node, 0) : FAULTY;
                case Words.BANG: return syntax.take() ? newNode(BANG, node, 0) : FAULTY;
                case Words.THEN:
                    brackets[bracketTop + 2] = rowWith(node);
                    return syntax.take() ? AWAITED : FAULTY;
                case Words.OR:
                    brackets[bracketTop + 1] = joined(node);
                    brackets[bracketTop + 2] = AWAITED;
                    return syntax.take() ? AWAITED : FAULTY;
                case Words.CLOSE: return brackets[bracketTop] == WHOLE ? faulty() : closeBracket(node);
                default: return faulty();
            }
        }

        private int openBracket(int what) {
            int at = what == WHOLE ? 0 : bracketTop + 3;
            if (at + 3 > brackets.length) {
                return FAULTY;
            }
            bracketTop = at;
            brackets[at] = what;
            brackets[at + 1] = AWAITED;
            brackets[at + 2] = AWAITED;
            return AWAITED;
        }

        private int closeBracket(int node) {
            int what = brackets[bracketTop];
            int inside = joined(node);
            bracketTop -= 3;
            if (!syntax.take()) {
                return FAULTY;
            }
            return what == PLAIN ? inside : newNode(what, inside, 0);
        }

        /** The row with ; between that a node ends. */
        private int rowWith(int node) {
            int row = brackets[bracketTop + 2];
            return row < 0 ? node : newNode(THEN, row, node);
        }

        /** All that stands in the bracket, which a node ends. */
        private int joined(int node) {
            int choice = brackets[bracketTop + 1];
            return choice < 0 ? rowWith(node) : newNode(OR, choice, rowWith(node));
        }

        private boolean isLabel(int name) {
            for (int r = 0; r < theory.rules; r++) {
                if (theory.told(Theory.MOST_EQUATIONS + r, Theory.LABEL) == name) {
                    return true;
                }
            }
            return false;
        }

        // strategies at work

        /** Puts the ANSWERS of a strategy for a term at REST behind the lists that are there; false: stopped. */
        private boolean answer(int node, int term) {
            int base = listTop;
            int a = nodes[node + 1];
            int b = nodes[node + 2];
            switch (nodes[node]) {
                case IDLE: return addAnswer(base, term);
                case FAIL: return true;
                case STEPS: return listSteps(term, a - 1) && addSteps(base);
                case OR:
                    if (!answer(a, term)) {
                        return false;
                    }
                    int behind = listTop;
                    return answer(b, term) && merge(base, behind);
                case THEN:
                    if (!answer(a, term)) {
                        return false;
                    }
                    int middle = listTop;
                    for (int k = base; k < middle; k++) {
                        int end = listTop;
                        if (!answer(b, lists[k]) || !merge(middle, end)) {
                            return false;
                        }
                    }
                    return moveDown(base, middle);
                case STAR:
                case BANG:
                    boolean good = addAnswer(base, term);
                    for (int k = base; k < base + MOST_LISTED && k < listTop && good; k++) {
                        int end = listTop;
                        good = answer(a, lists[k]);
                        ended[k] = listTop == end;
                        good = good && merge(base, end);
                    }
                    return good && (nodes[node] == STAR || keepEnded(base));
                default:
                    if (!answer(a, term)) {
                        return false;
                    }
                    boolean none = listTop == base;
                    listTop = nodes[node] == ONE && !none ? base + 1 : base;
                    return nodes[node] == ONE || !none || addAnswer(base, term);
            }
        }

        /** Puts a term at the end of the list from base on, unless it is in it. */
        private boolean addAnswer(int base, int term) {
            for (int k = base; k < listTop; k++) {
                if (lists[k] == term) {
                    return true;
                }
            }
            if (listTop - base >= MOST_LISTED || listTop >= MOST_LIST_CELLS) {
                return counts.halt(2) >= 0;
            }
            lists[listTop] = term;
            listTop++;
            return true;
        }

        private boolean addSteps(int base) {
            for (int k = 0; k < stepCount; k++) {
                if (!addAnswer(base, stepTerm[k])) {
                    return false;
                }
            }
            return true;
        }

        /** What stands behind the end of the list from base on joins it. */
        private boolean merge(int base, int end) {
            int last = listTop;
            listTop = end;
            for (int k = end; k < last; k++) {
                if (!addAnswer(base, lists[k])) {
                    return false;
                }
            }
            return true;
        }

        private boolean moveDown(int base, int from) {
            int many = listTop - from;
            System.arraycopy(lists, from, lists, base, many);
            listTop = base + many;
            return true;
        }

        private boolean keepEnded(int base) {
            int last = listTop;
            listTop = base;
            for (int k = base; k < last; k++) {
                if (ended[k]) {
                    lists[listTop] = lists[k];
                    listTop++;
                }
            }
            return true;
        }
    }

    /** Judges sorts and equations ahead: ONE LEAST, and FALLING. */
    static final class Judge {
        private static final int OPEN = -2, HOLDS = -1;

        private final Theory theory;
        private final Terms terms;
        /** Where ONE LEAST fails: the operator, and its sorts. */
        final int[] witness = new int[4];
        int witnessSorts;
        private int leastFailsAt;
        private int notFalling;
        private final int[] uppers = new int[Terms.MOST_SIZE];
        private final int[] lowers = new int[Terms.MOST_SIZE];
        private final boolean[] isAbove = new boolean[Terms.MOST_SIZE * Terms.MOST_SIZE];
        private final boolean[] gone = new boolean[Terms.MOST_SIZE];
        private int upperCount;
        private int lowerCount;

        Judge(Theory theory, Terms terms) {
            this.theory = theory;
            this.terms = terms;
            leastFailsAt = OPEN;
            notFalling = OPEN;
        }

        void restart() {
            leastFailsAt = OPEN;
            notFalling = OPEN;
        }

        // ONE LEAST

        boolean leastFails() {
            if (leastFailsAt == OPEN) {
                leastFailsAt = HOLDS;
                for (int op = 0; op < theory.operators && leastFailsAt == HOLDS; op++) {
                    if (failsOverRows(op) || (theory.isAssoc(op) && failsInJoining(op))) {
                        leastFailsAt = op;
                    }
                }
            }
            return leastFailsAt >= 0;
        }

        private boolean isOfKind(int sort, int op, int hole) {
            return theory.kindOf[sort] == theory.field(op, Theory.HOLE_KINDS + hole);
        }

        /** How many sorts are gone through for a HOLE; one, whatever it is, where there is no HOLE. */
        private int sortsFor(int op, int hole) {
            return hole < theory.holes(op) ? theory.sorts : 1;
        }

        private boolean fits(int sort, int op, int hole) {
            return hole >= theory.holes(op) || isOfKind(sort, op, hole);
        }

        private boolean failsOverRows(int op) {
            for (int a = 0; a < sortsFor(op, 0); a++) {
                for (int b = 0; b < sortsFor(op, 1) && fits(a, op, 0); b++) {
                    for (int c = 0; c < sortsFor(op, 2) && fits(b, op, 1); c++) {
                        if (fits(c, op, 2) && theory.leastOver(op, a, b, c) == Theory.NO_LEAST) {
                            return tellWitness(op, a, b, c, theory.holes(op));
                        }
                    }
                }
            }
            return false;
        }

        private boolean failsInJoining(int op) {
            for (int a = 0; a < theory.sorts; a++) {
                for (int b = 0; b < theory.sorts && isOfKind(a, op, 0); b++) {
                    for (int c = 0; c < theory.sorts && isOfKind(b, op, 0); c++) {
                        if (isOfKind(c, op, 0) && join(op, join(op, a, b), c) != join(op, a, join(op, b, c))) {
                            return tellWitness(op, a, b, c, 3);
                        }
                    }
                }
            }
            return false;
        }

        private int join(int op, int a, int b) {
            return Math.max(theory.leastOver(op, a, b, -1), -1);
        }

        private boolean tellWitness(int op, int a, int b, int c, int sorts) {
            witness[0] = op;
            witness[1] = a;
            witness[2] = b;
            witness[3] = c;
            witnessSorts = sorts;
            return true;
        }

        // FALLING

        /** The first equation that does not fall, or -1. */
        int firstNotFalling() {
            if (notFalling == OPEN) {
                notFalling = HOLDS;
                for (int e = 0; e < theory.equations && notFalling == HOLDS; e++) {
                    if (!falls(e)) {
                        notFalling = e;
                    }
                }
            }
            return notFalling;
        }

        private boolean falls(int equation) {
            int left = theory.told(equation, Theory.LEFT);
            if (!isAbove(left, theory.told(equation, Theory.RIGHT))) {
                return false;
            }
            int first = theory.told(equation, Theory.FIRST_PART);
            for (int p = first; p < first + theory.told(equation, Theory.PART_COUNT); p++) {
                boolean sorted = theory.toldPart(p, Theory.SIGN) == Words.COLON;
                if (!isAbove(left, theory.toldPart(p, Theory.T))) {
                    return false;
                }
                if (!sorted && !isAbove(left, theory.toldPart(p, Theory.U))) {
                    return false;
                }
            }
            return true;
        }

        /** Whether s is ABOVE t: worked out for all terms in both, the lower numbers (which stand in higher ones) first. */
        private boolean isAbove(int s, int t) {
            upperCount = terms.collect(s, uppers);
            lowerCount = terms.collect(t, lowers);
            for (int x = 0; x < upperCount; x++) {
                for (int y = 0; y < lowerCount; y++) {
                    isAbove[x * Terms.MOST_SIZE + y] = isAboveByParts(uppers[x], lowers[y]);
                }
            }
            return known(s, t);
        }

        private boolean known(int s, int t) {
            int x = 0;
            for (int n = 0; n < upperCount && uppers[x] != s; n++) {
                x++;
            }
            int y = 0;
            for (int n = 0; n < lowerCount && lowers[y] != t; n++) {
                y++;
            }
            return x < upperCount && y < lowerCount && isAbove[x * Terms.MOST_SIZE + y];
        }

        private boolean isAboveByParts(int s, int t) {
            for (int k = 0; k < terms.rowSize(s); k++) {
                if (terms.rowAt(s, k) == t || known(terms.rowAt(s, k), t)) {
                    return true;
                }
            }
            if (terms.isVariable(s) || terms.isVariable(t) || terms.head[s] < terms.head[t]) {
                return false;
            }
            for (int k = 0; k < terms.rowSize(t); k++) {
                if (!known(s, terms.rowAt(t, k))) {
                    return false;
                }
            }
            if (terms.head[s] > terms.head[t]) {
                return true;
            }
            int op = terms.operatorOf(s);
            return theory.isAssoc(op) || theory.isComm(op) ? isRowAboveAsBag(s, t) : isRowAboveInOrder(s, t);
        }

        private boolean isRowAboveInOrder(int s, int t) {
            for (int k = 0; k < terms.rowSize(s) && k < terms.rowSize(t); k++) {
                if (terms.rowAt(s, k) != terms.rowAt(t, k)) {
                    return known(terms.rowAt(s, k), terms.rowAt(t, k));
                }
            }
            return false;
        }

        /** What is in both rows counts for nothing; each that is left of t's needs one left of s's ABOVE it. */
        private boolean isRowAboveAsBag(int s, int t) {
            for (int k = 0; k < gone.length; k++) {
                gone[k] = false;
            }
            int left = terms.rowSize(s);
            for (int k = 0; k < terms.rowSize(t); k++) {
                int same = firstLeft(s, terms.rowAt(t, k));
                if (same >= 0) {
                    gone[same] = true;
                    left--;
                }
            }
            if (left == 0) {
                return false;
            }
            for (int k = 0; k < terms.rowSize(t); k++) {
                int times = timesIn(t, terms.rowAt(t, k), k + 1);
                boolean isLeft = times > timesIn(s, terms.rowAt(t, k), terms.rowSize(s));
                if (isLeft && !hasLeftAbove(s, terms.rowAt(t, k))) {
                    return false;
                }
            }
            return true;
        }

        private int firstLeft(int s, int term) {
            for (int k = 0; k < terms.rowSize(s); k++) {
                if (!gone[k] && terms.rowAt(s, k) == term) {
                    return k;
                }
            }
            return -1;
        }

        private int timesIn(int term, int wanted, int last) {
            int times = 0;
            for (int k = 0; k < last; k++) {
                if (terms.rowAt(term, k) == wanted) {
                    times++;
                }
            }
            return times;
        }

        private boolean hasLeftAbove(int s, int term) {
            for (int k = 0; k < terms.rowSize(s); k++) {
                if (!gone[k] && known(terms.rowAt(s, k), term)) {
                    return true;
                }
            }
            return false;
        }
    }

    /** Finds the most general ways in which two terms become one. */
    static final class Unifier {
        private static final int VARIABLES = 60, MOST_TWOS = 150, MOST_TOGETHER = 4000, MOST_WORK = 2000000000;
        private static final int NIL = -1, FAILS = -2;
        private static final int TWO = 3, MOST_GOALS = 1000;
        /** A row that is still to be turned round: two terms, what follows, and what was there before it. */
        private static final int CHOICE = 7, MOST_CHOICES = 200;

        private final Theory theory;
        private final Terms terms;
        private final Counts counts;
        private final int[] bind = new int[VARIABLES];
        /** The variables that stand for something by now, as bits. */
        private long bound;
        private final int[] trail = new int[VARIABLES + 1];
        private int trailTop;
        private final int[] goals = new int[MOST_GOALS * TWO];
        private int goalTop;
        private final int[] choices = new int[MOST_CHOICES * CHOICE];
        private int choiceTop;
        /** How many twos were looked at on this way. */
        private int twos;
        private int nodes;
        /** The goals with which it goes on; NIL: behind the latest way. */
        private int upcoming;
        /** How often sorts alone left it OPEN whether there is a way; and PAIRS and OPEN ones together. */
        int open;
        private int together;

        Unifier(Theory theory, Terms terms, Counts counts) {
            this.theory = theory;
            this.terms = terms;
            this.counts = counts;
        }

        void restart() {
            open = 0;
            together = 0;
        }

        boolean countOne() {
            together++;
            return together <= MOST_TOGETHER || counts.halt(2) >= 0;
        }

        private int newGoal(int first, int second, int next) {
            if (goalTop + TWO > goals.length) {
                counts.halt(5);
                return FAILS;
            }
            int goal = goalTop;
            goals[goal] = first;
            goals[goal + 1] = second;
            goals[goal + 2] = next;
            goalTop += TWO;
            return goal;
        }

        /** Two terms are to become one. */
        void open(int first, int second) {
            Arrays.fill(bind, -1);
            bound = 0L;
            trailTop = 0;
            goalTop = 0;
            choiceTop = 0;
            twos = 0;
            upcoming = newGoal(first, second, NIL);
        }

        /** On to the next way; terms that were made since the latest one go. False: there is none, or it is stopped. */
        boolean nextWay() {
            int goal = upcoming == NIL ? back() : upcoming;
            for (int work = 0; work < MOST_WORK && counts.stop == 0; work++) {
                if (goal == NIL) {
                    upcoming = NIL;
                    return true;
                }
                if (goal == FAILS && choiceTop == 0) {
                    return false;
                }
                goal = goal == FAILS ? back() : look(goal);
            }
            return false;
        }

        /** The last row that was not turned yet is turned: the goals then, or FAILS. */
        private int back() {
            if (choiceTop == 0) {
                return FAILS;
            }
            choiceTop -= CHOICE;
            int a = choices[choiceTop];
            int b = choices[choiceTop + 1];
            for (int n = trailTop; n > choices[choiceTop + 3]; n--) {
                bind[trail[n - 1]] = -1;
                bound &= ~(1L << trail[n - 1]);
            }
            trailTop = choices[choiceTop + 3];
            twos = choices[choiceTop + 4];
            goalTop = choices[choiceTop + 5];
            terms.release(choices[choiceTop + 6]);
            int list = newGoal(terms.rowAt(a, 1), terms.rowAt(b, 0), choices[choiceTop + 2]);
            return list == FAILS ? FAILS : newGoal(terms.rowAt(a, 0), terms.rowAt(b, 1), list);
        }

        private int look(int goal) {
            if (twos >= MOST_TWOS) {
                counts.halt(5);
                return FAILS;
            }
            twos++;
            int a = changed(goals[goal]);
            int b = a < 0 ? -1 : changed(goals[goal + 1]);
            int next = goals[goal + 2];
            if (a < 0 || b < 0) {
                return FAILS;
            }
            if (a == b) {
                return next;
            }
            if (terms.isVariable(a) || terms.isVariable(b)) {
                return isBound(a, b) ? next : FAILS;
            }
            if (terms.head[a] != terms.head[b]) {
                return FAILS;
            }
            if (theory.isComm(terms.operatorOf(a)) && !addChoice(a, b, next)) {
                return FAILS;
            }
            int list = next;
            for (int k = terms.rowSize(a) - 1; k >= 0 && list != FAILS; k--) {
                list = newGoal(terms.rowAt(a, k), terms.rowAt(b, k), list);
            }
            return list;
        }

        private boolean addChoice(int a, int b, int next) {
            if (choiceTop + CHOICE > choices.length) {
                return counts.halt(5) >= 0;
            }
            choices[choiceTop] = a;
            choices[choiceTop + 1] = b;
            choices[choiceTop + 2] = next;
            choices[choiceTop + 3] = trailTop;
            choices[choiceTop + 4] = twos;
            choices[choiceTop + 5] = goalTop;
            choices[choiceTop + 6] = terms.count;
            choiceTop += CHOICE;
            return true;
        }

        private int sortOf(int variable) {
            return theory.variableSort[terms.head[variable] % Theory.MOST_VARIABLES];
        }

        /** Two terms, one a variable at least, become one; or it is OPEN, or fails. */
        private boolean isBound(int a, int b) {
            boolean both = terms.isVariable(a) && terms.isVariable(b);
            if (both && theory.isBelow(sortOf(a), sortOf(b))) {
                return put(b, a);
            }
            int variable = terms.isVariable(a) ? a : b;
            int term = variable == a ? b : a;
            if ((terms.vars[term] & terms.vars[variable]) != 0L) {
                return false;
            }
            int least = terms.leastOf(term);
            if (least >= 0 && theory.isBelow(least, sortOf(variable))) {
                return put(variable, term);
            }
            if (both ? haveSortBelow(sortOf(a), sortOf(b)) : hasRowBelow(terms.operatorOf(term), sortOf(variable))) {
                open++;
                countOne();
            }
            return false;
        }

        private boolean put(int variable, int term) {
            bind[terms.head[variable]] = term;
            bound |= 1L << terms.head[variable];
            trail[trailTop] = terms.head[variable];
            trailTop++;
            return true;
        }

        private boolean haveSortBelow(int s, int t) {
            for (int k = 0; k < theory.sorts; k++) {
                if (theory.isBelow(k, s) && theory.isBelow(k, t)) {
                    return true;
                }
            }
            return false;
        }

        private boolean hasRowBelow(int op, int sort) {
            for (int r = 0; r < theory.rows; r++) {
                if (theory.row[r * Theory.ROW_FIELDS + Theory.OWNER] == op
                        && theory.isBelow(theory.row[r * Theory.ROW_FIELDS + Theory.RESULT], sort)) {
                    return true;
                }
            }
            return false;
        }

        /** A term with what its variables stand for by now; -1: it is too big. */
        int changed(int term) {
            nodes = 0;
            int made = changedInside(term);
            return made < 0 ? counts.halt(6) : made;
        }

        private int changedInside(int term) {
            int at = term;
            for (int n = 0; n <= VARIABLES && terms.isVariable(at) && bind[terms.head[at]] >= 0; n++) {
                at = bind[terms.head[at]];
            }
            boolean stays = (terms.vars[at] & bound) == 0L;
            nodes += stays ? terms.sizeOf(at) : 1;
            if (nodes > Terms.MOST_SIZE) {
                return -1;
            }
            if (stays) {
                return at;
            }
            int base = terms.argTop;
            int many = terms.rowSize(at);
            for (int k = 0; k < many; k++) {
                int inner = changedInside(terms.rowAt(at, k));
                if (inner < 0) {
                    terms.argTop = base;
                    return -1;
                }
                terms.push(inner);
            }
            int made = terms.make(terms.operatorOf(at), base, many);
            terms.argTop = base;
            return made;
        }
    }

    /** Judges pairs of equations that meet. */
    static final class Pairs {
        static final int JUDGE_ALL = -1;
        private static final int MOST_PAIRS = 4000, APART = Theory.MOST_VARIABLES, FOUND = 3;

        private final Theory theory;
        private final Terms terms;
        private final Runner runner;
        private final Counts counts;
        private final Unifier unifier;
        private boolean judged;
        int pairCount;
        int apart;
        int open;
        int stop;
        /** How many pairs were gone through. */
        private int gone;
        /** Of each pair that does not meet: i, j, and how many pairs stand ahead of it. */
        private final int[] found = new int[MOST_PAIRS * FOUND];
        private final int[] renamed = new int[Theory.MOST_VARIABLES];
        /** The terms of the latest pair. */
        int first;
        int second;

        Pairs(Theory theory, Terms terms, Runner runner, Counts counts) {
            this.theory = theory;
            this.terms = terms;
            this.runner = runner;
            this.counts = counts;
            this.unifier = new Unifier(theory, terms, counts);
        }

        void restart() {
            judged = false;
            stop = 0;
        }

        /** No operator of an equation is assoc or has an id, none has a C, or is an oeq. */
        boolean areLookedAt() {
            for (int e = 0; e < theory.equations; e++) {
                if (theory.told(e, Theory.PART_COUNT) > 0 || theory.told(e, Theory.ORDINARY) == 0
                        || !isFree(theory.told(e, Theory.LEFT)) || !isFree(theory.told(e, Theory.RIGHT))) {
                    return false;
                }
            }
            return true;
        }

        private boolean isFree(int term) {
            if (terms.isVariable(term)) {
                return true;
            }
            int op = terms.operatorOf(term);
            boolean free = !theory.isAssoc(op) && theory.unit(op) < 0;
            for (int k = 0; k < terms.rowSize(term) && free; k++) {
                free = isFree(terms.rowAt(term, k));
            }
            return free;
        }

        int equationOf(int i, int what) {
            return found[i * FOUND + what];
        }

        /** How many pairs stand ahead of the i-th one that does not meet. */
        int pairAhead(int i) {
            return found[i * FOUND + 2];
        }

        /** Judges all pairs, once; or goes through them again up to one that does not meet, to have its terms. */
        void judge(int wanted) {
            if (wanted == JUDGE_ALL && judged) {
                return;
            }
            counts.begin(Counts.MOST_DEALS_OF_PAIRS);
            runner.begin();
            unifier.restart();
            gone = 0;
            apart = wanted == JUDGE_ALL ? 0 : apart;
            boolean goes = true;
            for (int i = 0; i < theory.equations && goes; i++) {
                int left = putApart(theory.told(i, Theory.LEFT));
                int right = putApart(theory.told(i, Theory.RIGHT));
                for (int j = 0; j < theory.equations && goes && left >= 0 && right >= 0; j++) {
                    terms.openPlaces(theory.told(j, Theory.LEFT));
                    boolean there = true;
                    for (int n = 0; n <= Terms.MOST_SIZE && there && goes; n++) {
                        int mark = terms.count;
                        boolean unified = isLookedAt(i, j, left);
                        if (unified) {
                            unifier.open(left, terms.termHere());
                        }
                        for (int m = 0; m <= MOST_PAIRS && goes && unified; m++) {
                            unified = unifier.nextWay();
                            goes = !unified || addPair(i, j, right, wanted);
                        }
                        goes = goes && counts.stop == 0;
                        if (goes) {
                            terms.release(mark);
                        }
                        there = terms.nextPlace();
                    }
                }
            }
            if (wanted == JUDGE_ALL) {
                judged = true;
                pairCount = gone;
                open = unifier.open;
                stop = counts.stop;
            }
        }

        /** Whether i's left side and the place that is looked at in j's count; other operators have no way. */
        private boolean isLookedAt(int i, int j, int left) {
            int here = terms.termHere();
            boolean skipsWhole = i > j || (i == j && terms.commRows(here) == 0);
            return terms.head[here] == terms.head[left] && !(terms.isWholeHere() && skipsWhole);
        }

        private int putApart(int term) {
            for (int v = 0; v < APART; v++) {
                renamed[v] = (terms.vars[term] >> v & 1L) != 0L ? terms.intern(v + APART, 0) : -1;
            }
            return terms.fill(term, renamed, 0);
        }

        /** Judges the pair of the way that was found; false: stopped, or it was the one that is wanted. */
        private boolean addPair(int i, int j, int right, int wanted) {
            gone++;
            if (!unifier.countOne()) {
                return false;
            }
            if (wanted != JUDGE_ALL && wanted != gone - 1) {
                return true;
            }
            int mark = terms.count;
            counts.beginAnew();
            runner.begin();
            int whole = terms.wholeWith(right);
            first = unifier.changed(theory.told(j, Theory.RIGHT));
            second = whole < 0 ? counts.halt(6) : unifier.changed(whole);
            if (first < 0 || second < 0) {
                return false;
            }
            first = runner.restFrom(first, 0);
            second = first < 0 ? first : runner.restFrom(second, 0);
            if (second < 0 || wanted != JUDGE_ALL) {
                return false;
            }
            if (first != second && apart < MOST_PAIRS) {
                found[apart * FOUND] = i;
                found[apart * FOUND + 1] = j;
                found[apart * FOUND + 2] = gone - 1;
                apart++;
            }
            terms.release(mark);
            return true;
        }
    }
}
