import java.util.Arrays;
import java.util.NoSuchElementException;

/** A maker of parsers of many kinds; the document that it keeps to is ../shared/DOC.md. */
public final class GrammarwrightHall {
    private static final int TOKENS = 5;
    private static final int NAMES = 6;
    private static final int SYMBOLS = 11;
    private static final int RULES = 16;
    private static final int WIDTH = 5;
    private static final int DOTS = 6;
    private static final int LONGEST_TEXT = 12;
    private static final int ROWS = 13;
    private static final int LONGEST_WORD = 5;
    private static final int LEVELS = 10;
    private static final int TREES_TOLD = 1000000;
    private static final int STEPS = 400;
    private static final int NONE = -1;

    /** The number of the one more rule, by which the start stands alone. */
    private static final int TOP = 16;

    // Of a set of items, the first long holds the rules 0 to 8, the second one those from 9 on:
    // so the six dots of a rule are always in one long, and a shift by one moves every dot on.
    private static final int RULES_A_HALF = 9;
    private static final int SLOTS_A_HALF = 54;
    private static final int SLOTS = 108;

    // In sets of tokens, bit 5 is the end; in the first tokens of a tail, it tells that the tail can be empty.
    private static final int END = 5;
    private static final int END_BIT = 32;
    private static final int TOKEN_BITS = 31;
    private static final int CELLS = 6;
    private static final int ALL_CELLS = 63;

    private static final int SHIFTS = 100;
    private static final int ACCEPTS = 101;

    private static final int STATES = 200;

    /** Of the kinds, '0' and 's' come first; they have the same states. */
    private static final int KINDS = 4;
    private static final int PLAIN_KINDS = 2;
    private static final int KIND_0 = 0;
    private static final int KIND_L = 2;

    /** In each half of a set of items, those with the dot at first. */
    private static final long FIRST_DOTS = 0x1041041041041L;

    // With names that never end there can be far more states of the kinds '0' and 's' than of the kind '1'. The document
    // tells no bound for them; long searches found grammars with some 44000, and none with more.
    private static final int FEW_PLAIN_STATES = 256;
    private static final int MOST_PLAIN_STATES = 1048576;

    /** More than any cost or length; some of it added up are still an int. */
    private static final int TOO_MUCH = 100000000;

    private final Grammar grammar;
    private final Text text;
    private final Looks looks;
    private final Rows rows;
    private final Rows otherRows;
    private final PlainStates plain;
    private final FullStates full;
    private final Table[] tables;
    private final Run run;
    private final Run otherRun;
    private final Forest forest;
    private final Forest pruned;
    private final Mender mender;
    private final Lexicon lexicon;

    public GrammarwrightHall() {
        grammar = new Grammar();
        text = new Text();
        looks = new Looks(grammar);
        rows = new Rows(grammar, text);
        otherRows = new Rows(grammar, text);
        plain = new PlainStates(grammar);
        full = new FullStates(grammar, looks);
        tables = new Table[KINDS];
        for (int kind = 0; kind < KINDS; kind++) {
            tables[kind] = new Table(kind, grammar, looks, plain, full);
        }
        run = new Run(grammar, text);
        otherRun = new Run(grammar, text);
        forest = new Forest(grammar, looks, text, false);
        pruned = new Forest(grammar, looks, text, true);
        mender = new Mender(grammar, looks, text);
        lexicon = new Lexicon(grammar, looks);
    }

    // ---- the grammar ----

    public int rule(char left) throws IllegalArgumentException, IllegalStateException {
        int name = checkedName(left);
        if (grammar.count >= RULES) {
            throw new IllegalStateException("there are 16 rules");
        }
        rows.keepNone();
        return grammar.addRule(name);
    }

    public int symbol(int rule, char symbol)
            throws IndexOutOfBoundsException, IllegalArgumentException, IllegalStateException {
        checkRule(rule);
        int part = symbolOf(symbol);
        if (part == NONE) {
            throw new IllegalArgumentException("there is no such symbol");
        }
        if (grammar.width[rule] >= WIDTH) {
            throw new IllegalStateException("the rule has 5 symbols");
        }
        rows.keepNone();
        return grammar.addPart(rule, part);
    }

    public int level(int rule, int level, char side) throws IndexOutOfBoundsException, IllegalArgumentException {
        checkRule(rule);
        if (level < 0 || level >= LEVELS) {
            throw new IllegalArgumentException("there is no such level");
        }
        if (side != 'l' && side != 'r' && side != 'n') {
            throw new IllegalArgumentException("there is no such side");
        }
        return grammar.setLevel(rule, level, side);
    }

    public char start(char name) throws IllegalArgumentException {
        int code = checkedName(name);
        rows.keepNone();
        return (char) ('A' + grammar.setStart(code));
    }

    public int rules() {
        return grammar.count;
    }

    public int length(int rule) throws IndexOutOfBoundsException {
        checkRule(rule);
        return grammar.width[rule];
    }

    public char symbolAt(int rule, int place) throws IndexOutOfBoundsException {
        checkRule(rule);
        int part = grammar.partAt(rule, place);
        if (part == NONE) {
            throw new IndexOutOfBoundsException("there is no such place");
        }
        return part < TOKENS ? (char) ('a' + part) : (char) ('A' + part - TOKENS);
    }

    public double meanLength() throws ArithmeticException {
        if (grammar.count == 0) {
            throw new ArithmeticException("there are no rules");
        }
        int sum = 0;
        for (int rule = 0; rule < grammar.count; rule++) {
            sum += grammar.width[rule];
        }
        return (double) sum / (double) grammar.count;
    }

    // ---- looks ----

    public boolean canBeEmpty(char name) throws IllegalArgumentException {
        int code = checkedName(name);
        looks.refresh();
        return has(looks.emptyNames, code);
    }

    public int first(char name) throws IllegalArgumentException {
        int code = checkedName(name);
        looks.refresh();
        return looks.firsts[code];
    }

    public int behind(char name) throws IllegalArgumentException {
        int code = checkedName(name);
        looks.refresh();
        return looks.behinds[code];
    }

    public boolean isReached(char name) throws IllegalArgumentException {
        int code = checkedName(name);
        looks.refresh();
        return has(looks.reachedNames, code);
    }

    public int shortest(char name) throws IllegalArgumentException, NoSuchElementException {
        int code = checkedName(name);
        looks.refresh();
        if (!has(looks.endingNames, code)) {
            throw new NoSuchElementException("the name does not end");
        }
        return looks.lengths[code];
    }

    public boolean isLeftRecursive(char name) throws IllegalArgumentException {
        int code = checkedName(name);
        looks.refresh();
        return has(looks.leftward[code], code);
    }

    public boolean goesRound(char name) throws IllegalArgumentException {
        int code = checkedName(name);
        looks.refresh();
        return has(looks.around[code], code);
    }

    // ---- tables ----

    public int states(char kind) throws IllegalArgumentException, UnsupportedOperationException {
        return checkedTable(checkedKind(kind)).size;
    }

    public int items(char kind, int state)
            throws IllegalArgumentException, UnsupportedOperationException, IndexOutOfBoundsException {
        Table table = checkedTable(checkedKind(kind));
        checkState(table, state);
        return table.countItems(state);
    }

    public int leadsTo(char kind, int state, char symbol) throws IllegalArgumentException,
            UnsupportedOperationException, IndexOutOfBoundsException, NoSuchElementException {
        int row = checkedKind(kind);
        int part = symbolOf(symbol);
        if (part == NONE) {
            throw new IllegalArgumentException("there is no such symbol");
        }
        Table table = checkedTable(row);
        checkState(table, state);
        int next = table.findNext(state, part);
        if (next == NONE) {
            throw new NoSuchElementException("the state leads nowhere by this symbol");
        }
        return next;
    }

    public int does(char kind, int state, char token)
            throws IllegalArgumentException, UnsupportedOperationException, IndexOutOfBoundsException {
        int row = checkedKind(kind);
        int cell = token == '$' ? END : tokenOf(token);
        if (cell == NONE) {
            throw new IllegalArgumentException("there is no such token");
        }
        Table table = checkedTable(row);
        checkState(table, state);
        return table.actAt(state, cell);
    }

    public int doubts(char kind) throws IllegalArgumentException, UnsupportedOperationException {
        return checkedTable(checkedKind(kind)).countDoubts();
    }

    public int doubtAt(char kind, int index)
            throws IllegalArgumentException, UnsupportedOperationException, IndexOutOfBoundsException {
        Table table = checkedTable(checkedKind(kind));
        int cell = table.doubtfulCell(index);
        if (cell == NONE) {
            throw new IndexOutOfBoundsException("there is no such cell");
        }
        return cell;
    }

    // ---- the text ----

    public int type(char token) throws IllegalArgumentException, IllegalStateException {
        int code = checkedToken(token);
        checkRoom();
        rows.keepTo(text.size);
        return text.insert(text.size, code);
    }

    public int put(int place, char token)
            throws IndexOutOfBoundsException, IllegalArgumentException, IllegalStateException {
        if (place < 0 || place > text.size) {
            throw new IndexOutOfBoundsException("there is no such place");
        }
        int code = checkedToken(token);
        checkRoom();
        rows.keepTo(place);
        return text.insert(place, code);
    }

    public char cut(int place) throws IndexOutOfBoundsException {
        if (place < 0 || place >= text.size) {
            throw new IndexOutOfBoundsException("there is no such place");
        }
        rows.keepTo(place);
        return (char) ('a' + text.remove(place));
    }

    public int erase() {
        rows.keepTo(0);
        return text.clear();
    }

    // ---- parsing by tables ----

    public char parse(char kind) throws IllegalArgumentException, UnsupportedOperationException {
        return run.follow(checkedTable(checkedKind(kind)));
    }

    public int steps() {
        return run.stepCount;
    }

    public int reducedBy(int index) throws IndexOutOfBoundsException {
        if (index < 0 || index >= run.usedCount) {
            throw new IndexOutOfBoundsException("there is no such reduction");
        }
        return run.used[index];
    }

    // ---- parsing by rows ----

    public boolean isWord() {
        return rows.acceptText();
    }

    public int itemsIn(int row) throws IndexOutOfBoundsException {
        if (row < 0 || row > text.size) {
            throw new IndexOutOfBoundsException("there is no such row");
        }
        return rows.countItems(row);
    }

    public int kept() {
        return rows.made;
    }

    public int reckoned() {
        return rows.everMade;
    }

    // ---- trees ----

    public int trees() throws UnsupportedOperationException {
        checkNoneGoesRound();
        forest.refresh();
        return forest.countTrees();
    }

    public int treesLeft() throws UnsupportedOperationException {
        checkNoneGoesRound();
        pruned.refresh();
        return pruned.countTrees();
    }

    public int treeRule(int index) throws UnsupportedOperationException, NoSuchElementException {
        checkNode(index);
        return pruned.foundRule;
    }

    public int treeSpan(int index) throws UnsupportedOperationException, NoSuchElementException {
        checkNode(index);
        return 100 * pruned.foundBegin + pruned.foundEnd;
    }

    // ---- repair and words ----

    public int repair() throws NoSuchElementException {
        looks.refresh();
        if (!has(looks.endingNames, grammar.start)) {
            throw new NoSuchElementException("the language has no word");
        }
        mender.refresh();
        return mender.countCost();
    }

    public int words(int length) throws IllegalArgumentException {
        if (length < 0 || length > LONGEST_WORD) {
            throw new IllegalArgumentException("the length is out of range");
        }
        refreshLexicon();
        return lexicon.countUpTo(length);
    }

    public char wordAt(int index, int place) throws IndexOutOfBoundsException {
        refreshLexicon();
        int token = lexicon.tokenOfWord(index, place);
        if (token == NONE) {
            throw new IndexOutOfBoundsException("there is no such word or place");
        }
        return (char) ('a' + token);
    }

    public long allTokens() {
        refreshLexicon();
        return lexicon.sumOfLengths();
    }

    public float wordShare() {
        refreshLexicon();
        return (float) lexicon.countUpTo(LONGEST_WORD) / (float) 3906;
    }

    // ---- soundness ----

    public boolean isSound() {
        otherRows.keepNone();
        boolean word = otherRows.acceptText();
        refreshLexicon();
        return isRepairSound(word) && areTreesSound(word) && areWordsSound(word) && areTablesSound(word);
    }

    private boolean isRepairSound(boolean word) {
        if (!has(looks.endingNames, grammar.start)) {
            return !word;
        }
        mender.refresh();
        return (mender.countCost() == 0) == word;
    }

    private boolean areTreesSound(boolean word) {
        if (looks.liveOneGoesRound()) {
            return true;
        }
        forest.refresh();
        return (forest.countTrees() > 0) == word;
    }

    private boolean areWordsSound(boolean word) {
        return text.size > LONGEST_WORD || lexicon.holds(text) == word;
    }

    private boolean areTablesSound(boolean word) {
        for (int kind = 0; kind < KINDS; kind++) {
            if (makeTable(kind) && tables[kind].countDoubts() == 0 && (otherRun.follow(tables[kind]) == 'y') != word) {
                return false;
            }
        }
        return true;
    }

    // ---- what several of them use ----

    private static boolean has(int set, int member) {
        return (set >> member & 1) != 0;
    }

    private static int nameOf(char sign) {
        return sign >= 'A' && sign < 'A' + NAMES ? sign - 'A' : NONE;
    }

    private static int tokenOf(char sign) {
        return sign >= 'a' && sign < 'a' + TOKENS ? sign - 'a' : NONE;
    }

    private static int symbolOf(char sign) {
        int name = nameOf(sign);
        return name == NONE ? tokenOf(sign) : TOKENS + name;
    }

    private static int checkedName(char sign) {
        int name = nameOf(sign);
        if (name == NONE) {
            throw new IllegalArgumentException("there is no such name");
        }
        return name;
    }

    private static int checkedToken(char sign) {
        int token = tokenOf(sign);
        if (token == NONE) {
            throw new IllegalArgumentException("there is no such token");
        }
        return token;
    }

    private static int checkedKind(char kind) {
        int number = kind == '0' ? 0 : kind == 's' ? 1 : kind == 'l' ? 2 : kind == '1' ? 3 : NONE;
        if (number == NONE) {
            throw new IllegalArgumentException("there is no such kind");
        }
        return number;
    }

    private static void checkState(Table table, int state) {
        if (state < 0 || state >= table.size) {
            throw new IndexOutOfBoundsException("there is no such state");
        }
    }

    private void checkRule(int rule) {
        if (rule < 0 || rule >= grammar.count) {
            throw new IndexOutOfBoundsException("there is no such rule");
        }
    }

    private void checkRoom() {
        if (text.size >= LONGEST_TEXT) {
            throw new IllegalStateException("the text has 12 tokens");
        }
    }

    private void checkNoneGoesRound() {
        looks.refresh();
        if (looks.liveOneGoesRound()) {
            throw new UnsupportedOperationException("a name goes round that is reached and ends");
        }
    }

    private void checkNode(int index) {
        checkNoneGoesRound();
        pruned.refresh();
        if (!pruned.findNode(index)) {
            throw new NoSuchElementException("there is no such tree or index");
        }
    }

    private Table checkedTable(int kind) {
        if (!makeTable(kind)) {
            throw new UnsupportedOperationException("there would be too many states");
        }
        return tables[kind];
    }

    private void refreshLexicon() {
        looks.refresh();
        lexicon.refresh();
    }

    /** Whether the table can be made: that hangs on the states of the kind '1', whatever kind it is. */
    private boolean makeTable(int kind) {
        looks.refresh();
        full.refresh();
        if (full.tooMany) {
            return false;
        }
        if (kind < PLAIN_KINDS) {
            plain.refresh();
            if (plain.tooMany) {
                return false;
            }
        }
        tables[kind].refresh();
        return true;
    }

    private static int halfOf(int rule) {
        return rule < RULES_A_HALF ? 0 : 1;
    }

    private static long bitOf(int rule, int dot) {
        return 1L << ((rule < RULES_A_HALF ? rule : rule - RULES_A_HALF) * DOTS + dot);
    }

    /** Where, among tables over spans, that of a rule's symbols from a place on has its cell for a span. */
    private static int tailOf(int rule, int place, int begin, int end) {
        return ((rule * DOTS + place) * ROWS + begin) * ROWS + end;
    }

    /** Where, among tables over spans, that of a rule or a name has its cell for a span. */
    private static int spanOf(int number, int begin, int end) {
        return (number * ROWS + begin) * ROWS + end;
    }

    /** The number of the lowest bit of a set that has one. */
    private static int lowestOf(long set) {
        return Long.bitCount((set & -set) - 1);
    }

    /** The rules. For each symbol the items ahead of it, for each name its items at the end and at first are kept. */
    private static final class Grammar {
        final int[] left = new int[RULES + 1];
        final int[] right = new int[(RULES + 1) * WIDTH];
        final int[] width = new int[RULES + 1];
        final int[] levels = new int[RULES];
        final char[] sides = new char[RULES];
        final long[] ahead = new long[SYMBOLS * 2];
        final long[] ended = new long[NAMES * 2];
        final long[] fresh = new long[NAMES * 2];
        int count;
        int start;
        int version;
        int levelVersion;

        Grammar() {
            left[TOP] = NONE;
            width[TOP] = 1;
            right[TOP * WIDTH] = TOKENS;
            ahead[TOKENS * 2 + 1] = bitOf(TOP, 0);
        }

        int addRule(int name) {
            int rule = count;
            int place = name * 2 + halfOf(rule);
            left[rule] = name;
            width[rule] = 0;
            sides[rule] = 'n';
            fresh[place] |= bitOf(rule, 0);
            ended[place] |= bitOf(rule, 0);
            count++;
            version++;
            return rule;
        }

        int addPart(int rule, int part) {
            int half = halfOf(rule);
            int place = width[rule];
            right[rule * WIDTH + place] = part;
            width[rule] = place + 1;
            ahead[part * 2 + half] |= bitOf(rule, place);
            ended[left[rule] * 2 + half] ^= bitOf(rule, place) | bitOf(rule, place + 1);
            version++;
            return place + 1;
        }

        int setLevel(int rule, int level, char side) {
            int before = levels[rule];
            levels[rule] = level;
            sides[rule] = side;
            levelVersion++;
            return before;
        }

        int setStart(int name) {
            int before = start;
            ahead[(TOKENS + before) * 2 + 1] &= ~bitOf(TOP, 0);
            ahead[(TOKENS + name) * 2 + 1] |= bitOf(TOP, 0);
            right[TOP * WIDTH] = TOKENS + name;
            start = name;
            version++;
            return before;
        }

        /** The items of a set, in one of the halves, that have the dot ahead of a symbol, with the dot moved on. */
        long moveDots(long set, int part, int half) {
            return (set & ahead[part * 2 + half]) << 1;
        }

        /** The symbol at a place of a rule, the one more rule too; NONE behind its last one. */
        int partAt(int rule, int place) {
            return place >= 0 && place < width[rule] ? right[rule * WIDTH + place] : NONE;
        }
    }

    /** The row of tokens that is parsed. */
    private static final class Text {
        final int[] tokens = new int[LONGEST_TEXT];
        int size;
        int version;

        int insert(int place, int token) {
            for (int i = size; i > place; i--) {
                tokens[i] = tokens[i - 1];
            }
            tokens[place] = token;
            size++;
            version++;
            return size;
        }

        int remove(int place) {
            int token = tokens[place];
            for (int i = place + 1; i < size; i++) {
                tokens[i - 1] = tokens[i];
            }
            size--;
            version++;
            return token;
        }

        int clear() {
            int before = size;
            size = 0;
            version++;
            return before;
        }
    }

    /** What can be seen of the names without a text. Sets of names and of tokens are bits of an int. */
    private static final class Looks {
        private final Grammar grammar;
        private int version = NONE;
        int emptyNames;
        int reachedNames;
        int endingNames;
        final int[] firsts = new int[NAMES];
        final int[] behinds = new int[NAMES];
        final int[] lengths = new int[NAMES];
        /** For each name those that it can begin with, ahead of which all can be empty, after one step or more. */
        final int[] leftward = new int[NAMES];
        /** For each name those beside which all can be empty, after one step or more. */
        final int[] around = new int[NAMES];
        /** For each rule and place, what the symbols from there on can begin with. */
        final int[] tails = new int[(RULES + 1) * DOTS];

        Looks(Grammar grammar) {
            this.grammar = grammar;
        }

        void refresh() {
            if (version == grammar.version) {
                return;
            }
            version = grammar.version;
            findEmptyNames();
            findFirsts();
            findTails();
            findBehinds();
            findReachedNames();
            findLengths();
            findWays();
        }

        boolean canVanish(int part) {
            return part >= TOKENS && (emptyNames >> part - TOKENS & 1) != 0;
        }

        boolean liveOneGoesRound() {
            for (int name = 0; name < NAMES; name++) {
                if (has(around[name] & reachedNames & endingNames, name)) {
                    return true;
                }
            }
            return false;
        }

        /** How many symbols from the first one on can be empty. */
        int vanishingParts(int rule) {
            int place = 0;
            while (place < grammar.width[rule] && canVanish(grammar.partAt(rule, place))) {
                place++;
            }
            return place;
        }

        private void findEmptyNames() {
            emptyNames = 0;
            for (int round = 0; round < NAMES; round++) {
                for (int rule = 0; rule < grammar.count; rule++) {
                    if (vanishingParts(rule) == grammar.width[rule]) {
                        emptyNames |= 1 << grammar.left[rule];
                    }
                }
            }
        }

        private void findFirsts() {
            Arrays.fill(firsts, 0);
            boolean grown = true;
            for (int round = 0; grown && round < NAMES * TOKENS + 1; round++) {
                grown = false;
                for (int rule = 0; rule < grammar.count; rule++) {
                    int name = grammar.left[rule];
                    int more = firsts[name] | tailFrom(rule, 0) & TOKEN_BITS;
                    grown |= more != firsts[name];
                    firsts[name] = more;
                }
            }
        }

        private int tailFrom(int rule, int place) {
            int tokens = 0;
            for (int i = place; i < grammar.width[rule]; i++) {
                int part = grammar.partAt(rule, i);
                tokens |= part < TOKENS ? 1 << part : firsts[part - TOKENS];
                if (!canVanish(part)) {
                    return tokens;
                }
            }
            return tokens | END_BIT;
        }

        private void findTails() {
            for (int rule = 0; rule < grammar.count; rule++) {
                for (int place = 0; place <= grammar.width[rule]; place++) {
                    tails[rule * DOTS + place] = tailFrom(rule, place);
                }
            }
            tails[TOP * DOTS] = tailFrom(TOP, 0);
            tails[TOP * DOTS + 1] = END_BIT;
        }

        private void findBehinds() {
            Arrays.fill(behinds, 0);
            behinds[grammar.start] = END_BIT;
            boolean grown = true;
            for (int round = 0; grown && round < NAMES * CELLS + 1; round++) {
                grown = false;
                for (int rule = 0; rule < grammar.count; rule++) {
                    grown |= passBehind(rule);
                }
            }
        }

        private boolean passBehind(int rule) {
            boolean grown = false;
            for (int place = 0; place < grammar.width[rule]; place++) {
                int part = grammar.partAt(rule, place);
                if (part >= TOKENS) {
                    int tail = tails[rule * DOTS + place + 1];
                    int name = part - TOKENS;
                    int after = (tail & END_BIT) == 0 ? 0 : behinds[grammar.left[rule]];
                    int more = behinds[name] | tail & TOKEN_BITS | after;
                    grown |= more != behinds[name];
                    behinds[name] = more;
                }
            }
            return grown;
        }

        private void findReachedNames() {
            reachedNames = 1 << grammar.start;
            for (int round = 0; round < NAMES; round++) {
                for (int rule = 0; rule < grammar.count; rule++) {
                    if (has(reachedNames, grammar.left[rule])) {
                        reachedNames |= namesIn(rule);
                    }
                }
            }
        }

        private int namesIn(int rule) {
            int names = 0;
            for (int place = 0; place < grammar.width[rule]; place++) {
                int part = grammar.partAt(rule, place);
                if (part >= TOKENS) {
                    names |= 1 << part - TOKENS;
                }
            }
            return names;
        }

        private void findLengths() {
            Arrays.fill(lengths, TOO_MUCH);
            // a shortest word has a tree in which no name stands above itself, so six rounds find all
            for (int round = 0; round < NAMES; round++) {
                for (int rule = 0; rule < grammar.count; rule++) {
                    int name = grammar.left[rule];
                    lengths[name] = Math.min(lengths[name], lengthBy(rule));
                }
            }
            endingNames = 0;
            for (int name = 0; name < NAMES; name++) {
                if (lengths[name] < TOO_MUCH) {
                    endingNames |= 1 << name;
                }
            }
        }

        private int lengthBy(int rule) {
            int sum = 0;
            for (int place = 0; place < grammar.width[rule]; place++) {
                int part = grammar.partAt(rule, place);
                sum = Math.min(TOO_MUCH, sum + (part < TOKENS ? 1 : lengths[part - TOKENS]));
            }
            return sum;
        }

        private void findWays() {
            Arrays.fill(leftward, 0);
            Arrays.fill(around, 0);
            for (int rule = 0; rule < grammar.count; rule++) {
                int name = grammar.left[rule];
                int ahead = vanishingParts(rule);
                for (int place = 0; place <= ahead && place < grammar.width[rule]; place++) {
                    int part = grammar.partAt(rule, place);
                    if (part >= TOKENS) {
                        leftward[name] |= 1 << part - TOKENS;
                        if ((tails[rule * DOTS + place + 1] & END_BIT) != 0) {
                            around[name] |= 1 << part - TOKENS;
                        }
                    }
                }
            }
            prolong(leftward);
            prolong(around);
        }

        private static void prolong(int[] ways) {
            for (int by = 0; by < NAMES; by++) {
                for (int from = 0; from < NAMES; from++) {
                    if (has(ways[from], by)) {
                        ways[from] |= ways[by];
                    }
                }
            }
        }
    }

    /** The rows of items of the text: for each row and each row at which items began, a set of items. */
    private static final class Rows {
        private final Grammar grammar;
        private final Text text;
        private final long[] sets = new long[ROWS * ROWS * 2];
        int made;
        int everMade;

        Rows(Grammar grammar, Text text) {
            this.grammar = grammar;
            this.text = text;
        }

        void keepNone() {
            made = 0;
        }

        void keepTo(int place) {
            made = Math.min(made, place + 1);
        }

        boolean acceptText() {
            makeTo(text.size);
            return (sets[placeOf(text.size, 0) + 1] & bitOf(TOP, 1)) != 0;
        }

        int countItems(int row) {
            makeTo(row);
            int sum = 0;
            for (int begun = 0; begun <= row; begun++) {
                int place = placeOf(row, begun);
                sum += Long.bitCount(sets[place]) + Long.bitCount(sets[place + 1]);
            }
            return sum;
        }

        private static int placeOf(int row, int begun) {
            return (row * ROWS + begun) * 2;
        }

        private void makeTo(int row) {
            for (int next = made; next <= row && next < ROWS; next++) {
                begin(next);
                boolean grown = true;
                // each round adds an item, or is the last one
                for (int round = 0; grown && round < ROWS * SLOTS; round++) {
                    grown = expect(next);
                    grown |= finish(next);
                }
                made = next + 1;
                everMade++;
            }
        }

        private void begin(int row) {
            for (int begun = 0; begun <= row; begun++) {
                sets[placeOf(row, begun)] = 0;
                sets[placeOf(row, begun) + 1] = 0;
            }
            if (row == 0) {
                sets[1] = bitOf(TOP, 0);
                return;
            }
            int token = text.tokens[row - 1];
            for (int begun = 0; begun < row; begun++) {
                moveOn(row, row - 1, begun, token);
            }
        }

        /** Adds the items that had the dot ahead of a part in a row, with the dot moved on. */
        private boolean moveOn(int row, int from, int begun, int part) {
            boolean grown = false;
            for (int half = 0; half < 2; half++) {
                long moved = grammar.moveDots(sets[placeOf(from, begun) + half], part, half);
                int place = placeOf(row, begun) + half;
                if ((moved & ~sets[place]) != 0) {
                    sets[place] |= moved;
                    grown = true;
                }
            }
            return grown;
        }

        private boolean expect(int row) {
            boolean grown = false;
            int own = placeOf(row, row);
            for (int name = 0; name < NAMES; name++) {
                long low = grammar.fresh[name * 2] & ~sets[own];
                long high = grammar.fresh[name * 2 + 1] & ~sets[own + 1];
                if ((low | high) != 0 && isExpected(row, name)) {
                    sets[own] |= low;
                    sets[own + 1] |= high;
                    grown = true;
                }
            }
            return grown;
        }

        private boolean isExpected(int row, int name) {
            long low = grammar.ahead[(TOKENS + name) * 2];
            long high = grammar.ahead[(TOKENS + name) * 2 + 1];
            for (int begun = 0; begun <= row; begun++) {
                int place = placeOf(row, begun);
                if ((sets[place] & low) != 0 || (sets[place + 1] & high) != 0) {
                    return true;
                }
            }
            return false;
        }

        private boolean finish(int row) {
            boolean grown = false;
            for (int begun = row; begun >= 0; begun--) {
                int place = placeOf(row, begun);
                for (int name = 0; name < NAMES; name++) {
                    if ((sets[place] & grammar.ended[name * 2]) != 0
                            || (sets[place + 1] & grammar.ended[name * 2 + 1]) != 0) {
                        for (int older = 0; older <= begun; older++) {
                            grown |= moveOn(row, begun, older, TOKENS + name);
                        }
                    }
                }
            }
            return grown;
        }
    }

    /**
     * The states of the kinds '0' and 's': each is a set of items in two longs. There can be very many, so where they lead
     * is not kept, but found when it is asked: a state is known by its items whose dot is not at first.
     */
    private static final class PlainStates {
        private final Grammar grammar;
        /** For each name all items that closing adds for it. */
        private final long[] added = new long[NAMES * 2];
        private long[] sets = new long[FEW_PLAIN_STATES * 2];
        /** For each state, one that was found ahead of it and has the same place among the heads. */
        private int[] links = new int[FEW_PLAIN_STATES];
        private int[] heads = new int[FEW_PLAIN_STATES / 4];
        private int version = NONE;
        int size;
        boolean tooMany;

        PlainStates(Grammar grammar) {
            this.grammar = grammar;
        }

        void refresh() {
            if (version == grammar.version) {
                return;
            }
            version = grammar.version;
            findAdded();
            Arrays.fill(heads, NONE);
            tooMany = false;
            size = 0;
            add(0, bitOf(TOP, 0));
            for (int state = 0; state < size && state < MOST_PLAIN_STATES && !tooMany; state++) {
                for (int part = 0; part < SYMBOLS && !tooMany; part++) {
                    long low = grammar.moveDots(sets[state * 2], part, 0);
                    long high = grammar.moveDots(sets[state * 2 + 1], part, 1);
                    if ((low | high) != 0 && find(low, high) == NONE) {
                        add(low, high);
                    }
                }
            }
        }

        int countItems(int state) {
            return Long.bitCount(sets[state * 2]) + Long.bitCount(sets[state * 2 + 1]);
        }

        /** The items of a state, in one of the halves, that have the dot at the end. */
        long endedItems(int state, int half) {
            long ends = half == halfOf(TOP) ? bitOf(TOP, 1) : 0;
            for (int name = 0; name < NAMES; name++) {
                ends |= grammar.ended[name * 2 + half];
            }
            return sets[state * 2 + half] & ends;
        }

        boolean leadsBy(int state, int part) {
            return (sets[state * 2] & grammar.ahead[part * 2]) != 0
                    || (sets[state * 2 + 1] & grammar.ahead[part * 2 + 1]) != 0;
        }

        /** The state to which a state leads by a symbol; NONE if there is none. */
        int findNext(int state, int part) {
            long low = grammar.moveDots(sets[state * 2], part, 0);
            long high = grammar.moveDots(sets[state * 2 + 1], part, 1);
            return (low | high) == 0 ? NONE : find(low, high);
        }

        /** The state with these items ahead of closing; none of them has the dot at first, so it is never the state 0. */
        private int find(long low, long high) {
            int state = heads[headOf(low, high)];
            for (int i = 0; i < size && state != NONE; i++) {
                if ((sets[state * 2] & ~FIRST_DOTS) == low && (sets[state * 2 + 1] & ~FIRST_DOTS) == high) {
                    return state;
                }
                state = links[state];
            }
            return NONE;
        }

        private int headOf(long low, long high) {
            long mixed = low * 0x9E3779B97F4A7C15L + high * 0xBF58476D1CE4E5B9L;
            mixed = (mixed ^ mixed >>> 32) * 0x94D049BB133111EBL;
            return (int) (mixed >>> 40) & heads.length - 1;
        }

        private void add(long low, long high) {
            if (size >= links.length) {
                if (size >= MOST_PLAIN_STATES) {
                    tooMany = true;
                    return;
                }
                makeRoom();
            }
            sets[size * 2] = low;
            sets[size * 2 + 1] = high;
            link(size, low, high);
            for (int name = 0; name < NAMES; name++) {
                if (leadsBy(size, TOKENS + name)) {
                    sets[size * 2] |= added[name * 2];
                    sets[size * 2 + 1] |= added[name * 2 + 1];
                }
            }
            size++;
        }

        private void link(int state, long low, long high) {
            int head = headOf(low, high);
            links[state] = heads[head];
            heads[head] = state;
        }

        private void makeRoom() {
            int room = 4 * links.length;
            sets = Arrays.copyOf(sets, room * 2);
            links = Arrays.copyOf(links, room);
            heads = new int[room / 4];
            Arrays.fill(heads, NONE);
            for (int state = 0; state < size; state++) {
                link(state, sets[state * 2] & ~FIRST_DOTS, sets[state * 2 + 1] & ~FIRST_DOTS);
            }
        }

        private void findAdded() {
            System.arraycopy(grammar.fresh, 0, added, 0, added.length);
            for (int by = 0; by < NAMES; by++) {
                long low = grammar.ahead[(TOKENS + by) * 2];
                long high = grammar.ahead[(TOKENS + by) * 2 + 1];
                for (int name = 0; name < NAMES; name++) {
                    if ((added[name * 2] & low) != 0 || (added[name * 2 + 1] & high) != 0) {
                        added[name * 2] |= added[by * 2];
                        added[name * 2 + 1] |= added[by * 2 + 1];
                    }
                }
            }
        }
    }

    /** The states of the kind '1': each is a set of items, and for each item the set of what may be behind its rule. */
    private static final class FullStates {
        private final Grammar grammar;
        private final Looks looks;
        private final long[] kernels = new long[(STATES + 1) * 2];
        private final long[] sets = new long[(STATES + 1) * 2];
        /** Holds for the items that are in the state's set alone. */
        private final int[] behinds = new int[(STATES + 1) * SLOTS];
        private final int[] due = new int[NAMES];
        private int version = NONE;
        final int[] leads = new int[STATES * SYMBOLS];
        int size;
        boolean tooMany;

        FullStates(Grammar grammar, Looks looks) {
            this.grammar = grammar;
            this.looks = looks;
        }

        void refresh() {
            if (version == grammar.version) {
                return;
            }
            version = grammar.version;
            tooMany = false;
            size = 1;
            kernels[0] = 0;
            kernels[1] = bitOf(TOP, 0);
            behinds[TOP * DOTS] = END_BIT;
            close(0);
            for (int state = 0; state < size && state < STATES && !tooMany; state++) {
                for (int part = 0; part < SYMBOLS && !tooMany; part++) {
                    leads[state * SYMBOLS + part] = findNext(state, part);
                }
            }
        }

        boolean haveSameItems(int state, int other) {
            return sets[state * 2] == sets[other * 2] && sets[state * 2 + 1] == sets[other * 2 + 1];
        }

        /** Adds what may be behind each item of a state to what is told of the items already. */
        void addBehinds(int state, int[] merged) {
            for (int half = 0; half < 2; half++) {
                long rest = sets[state * 2 + half];
                for (int left = Long.bitCount(rest); left > 0; left--) {
                    int slot = half * SLOTS_A_HALF + lowestOf(rest);
                    merged[slot] |= behinds[state * SLOTS + slot];
                    rest &= rest - 1;
                }
            }
        }

        private int findNext(int state, int part) {
            long low = grammar.moveDots(sets[state * 2], part, 0);
            long high = grammar.moveDots(sets[state * 2 + 1], part, 1);
            if ((low | high) == 0) {
                return NONE;
            }
            int next = size;
            kernels[next * 2] = low;
            kernels[next * 2 + 1] = high;
            copyBehinds(state, next);
            for (int old = 0; old < next; old++) {
                if (haveSameKernel(old, next)) {
                    return old;
                }
            }
            if (size >= STATES) {
                tooMany = true;
                return NONE;
            }
            close(next);
            size++;
            return next;
        }

        /** An item with the dot moved on has behind its rule what it had ahead of the symbol. */
        private void copyBehinds(int from, int to) {
            for (int half = 0; half < 2; half++) {
                long rest = kernels[to * 2 + half];
                for (int left = Long.bitCount(rest); left > 0; left--) {
                    int slot = half * SLOTS_A_HALF + lowestOf(rest);
                    behinds[to * SLOTS + slot] = behinds[from * SLOTS + slot - 1];
                    rest &= rest - 1;
                }
            }
        }

        private boolean haveSameKernel(int old, int next) {
            if (kernels[old * 2] != kernels[next * 2] || kernels[old * 2 + 1] != kernels[next * 2 + 1]) {
                return false;
            }
            for (int half = 0; half < 2; half++) {
                long rest = kernels[next * 2 + half];
                for (int left = Long.bitCount(rest); left > 0; left--) {
                    int slot = half * SLOTS_A_HALF + lowestOf(rest);
                    if (behinds[old * SLOTS + slot] != behinds[next * SLOTS + slot]) {
                        return false;
                    }
                    rest &= rest - 1;
                }
            }
            return true;
        }

        /** All items that closing adds for a name have the same behind them, so this is found a name at a time. */
        private void close(int state) {
            Arrays.fill(due, 0);
            for (int half = 0; half < 2; half++) {
                long rest = kernels[state * 2 + half];
                sets[state * 2 + half] = rest;
                for (int left = Long.bitCount(rest); left > 0; left--) {
                    int slot = half * SLOTS_A_HALF + lowestOf(rest);
                    demand(grammar.partAt(slot / DOTS, slot % DOTS), slot, behinds[state * SLOTS + slot]);
                    rest &= rest - 1;
                }
            }
            boolean grown = true;
            for (int round = 0; grown && round <= NAMES * CELLS; round++) {
                grown = false;
                for (int rule = 0; rule < grammar.count; rule++) {
                    grown |= demand(grammar.partAt(rule, 0), rule * DOTS, due[grammar.left[rule]]);
                }
            }
            addDueItems(state);
        }

        /** Tells what is due behind the name at the dot of an item; nothing behind the item means that there is none. */
        private boolean demand(int part, int slot, int behind) {
            if (part < TOKENS || behind == 0) {
                return false;
            }
            int name = part - TOKENS;
            int tail = looks.tails[slot + 1];
            int more = due[name] | tail & TOKEN_BITS | ((tail & END_BIT) == 0 ? 0 : behind);
            boolean grown = more != due[name];
            due[name] = more;
            return grown;
        }

        private void addDueItems(int state) {
            for (int rule = 0; rule < grammar.count; rule++) {
                int behind = due[grammar.left[rule]];
                if (behind != 0) {
                    sets[state * 2 + halfOf(rule)] |= bitOf(rule, 0);
                    behinds[state * SLOTS + rule * DOTS] = behind;
                }
            }
        }
    }

    /** What is asked of one kind: where states lead, what their cells do and which are in doubt. */
    private static final class Table {
        /** The cells in doubt are counted up to each of so many states, so that one of them is found without all. */
        private static final int BLOCK = 1024;

        private final int kind;
        private final Grammar grammar;
        private final Looks looks;
        private final PlainStates plain;
        private final FullStates full;
        /** For the kinds '1' and 'l': of which state each state of the kind '1' is one, and the first one of each. */
        private final int[] groupOf = new int[STATES];
        private final int[] firstOf = new int[STATES];
        /** For each item of the state that is shown, the set of what may be behind it. */
        private final int[] merged = new int[SLOTS];
        /** For each rule the set of cells of the state that is shown in which it may reduce. */
        private final int[] reduces = new int[RULES + 1];
        private int shifts;
        private int itemCount;
        private int shown;
        private final int[] doubtsAhead = new int[MOST_PLAIN_STATES / BLOCK + 1];
        private boolean counted;
        private int doubtCount;
        private int version = NONE;
        int size;

        Table(int kind, Grammar grammar, Looks looks, PlainStates plain, FullStates full) {
            this.kind = kind;
            this.grammar = grammar;
            this.looks = looks;
            this.plain = plain;
            this.full = full;
        }

        void refresh() {
            if (version == grammar.version) {
                return;
            }
            version = grammar.version;
            shown = NONE;
            counted = false;
            size = kind < PLAIN_KINDS ? plain.size : countGroups();
        }

        /** In the kind '1' each state is a group by itself; in the kind 'l' those with the same items are one. */
        private int countGroups() {
            int groups = 0;
            for (int state = 0; state < full.size; state++) {
                int group = kind == KIND_L ? 0 : groups;
                while (group < groups && !full.haveSameItems(firstOf[group], state)) {
                    group++;
                }
                groupOf[state] = group;
                if (group == groups) {
                    firstOf[group] = state;
                    groups++;
                }
            }
            return groups;
        }

        int findNext(int state, int part) {
            if (kind < PLAIN_KINDS) {
                return plain.findNext(state, part);
            }
            int next = full.leads[firstOf[state] * SYMBOLS + part];
            return next == NONE ? NONE : groupOf[next];
        }

        int countItems(int state) {
            show(state);
            return itemCount;
        }

        int actAt(int state, int cell) {
            show(state);
            if (has(reduces[TOP], cell)) {
                return ACCEPTS;
            }
            if (has(shifts, cell)) {
                return SHIFTS;
            }
            for (int rule = 0; rule < grammar.count; rule++) {
                if (has(reduces[rule], cell)) {
                    return rule;
                }
            }
            return NONE;
        }

        int countDoubts() {
            if (!counted) {
                counted = true;
                doubtCount = 0;
                for (int state = 0; state < size; state++) {
                    if (state % BLOCK == 0) {
                        doubtsAhead[state / BLOCK] = doubtCount;
                    }
                    doubtCount += Integer.bitCount(cellsInDoubt(state));
                }
            }
            return doubtCount;
        }

        /** Ten times the state and the number of the cell; NONE if there is no such one. */
        int doubtfulCell(int index) {
            if (index < 0 || index >= countDoubts()) {
                return NONE;
            }
            int block = (size - 1) / BLOCK;
            while (block > 0 && doubtsAhead[block] > index) {
                block--;
            }
            int left = index - doubtsAhead[block];
            for (int state = block * BLOCK; state < size; state++) {
                int cells = cellsInDoubt(state);
                for (int cell = 0; cell < CELLS; cell++) {
                    if (has(cells, cell)) {
                        if (left == 0) {
                            return 10 * state + cell;
                        }
                        left--;
                    }
                }
            }
            return NONE;
        }

        private int cellsInDoubt(int state) {
            show(state);
            int once = shifts;
            int twice = 0;
            for (int rule = 0; rule <= RULES; rule++) {
                twice |= once & reduces[rule];
                once |= reduces[rule];
            }
            return twice;
        }

        /** What a state does is found for one state at a time, and kept until another is asked. */
        private void show(int state) {
            if (shown == state) {
                return;
            }
            shown = state;
            Arrays.fill(reduces, 0);
            shifts = 0;
            if (kind < PLAIN_KINDS) {
                showPlain(state);
                return;
            }
            Arrays.fill(merged, 0);
            for (int part = firstOf[state]; part < full.size; part++) {
                if (groupOf[part] == state) {
                    full.addBehinds(part, merged);
                }
            }
            showMerged(state);
        }

        /** In the kind '0' every rule reduces in every cell, in the kind 's' by what is behind its name. */
        private int cellsBehind(int name) {
            return kind == KIND_0 ? ALL_CELLS : looks.behinds[name];
        }

        private void showPlain(int state) {
            itemCount = plain.countItems(state);
            for (int half = 0; half < 2; half++) {
                long rest = plain.endedItems(state, half);
                for (int left = Long.bitCount(rest); left > 0; left--) {
                    int rule = (half * SLOTS_A_HALF + lowestOf(rest)) / DOTS;
                    reduces[rule] = rule == TOP ? END_BIT : cellsBehind(grammar.left[rule]);
                    rest &= rest - 1;
                }
            }
            for (int token = 0; token < TOKENS; token++) {
                if (plain.leadsBy(state, token)) {
                    shifts |= 1 << token;
                }
            }
        }

        private void showMerged(int state) {
            itemCount = 0;
            for (int slot = 0; slot < SLOTS; slot++) {
                itemCount += Integer.bitCount(merged[slot]);
            }
            for (int rule = 0; rule < grammar.count; rule++) {
                reduces[rule] = merged[rule * DOTS + grammar.width[rule]];
            }
            reduces[TOP] = merged[TOP * DOTS + 1];
            for (int token = 0; token < TOKENS; token++) {
                if (full.leads[firstOf[state] * SYMBOLS + token] != NONE) {
                    shifts |= 1 << token;
                }
            }
        }
    }

    /** A parsing of the text by a table. */
    private static final class Run {
        private final Grammar grammar;
        private final Text text;
        private final int[] stack = new int[STEPS + 2];
        private int depth;
        final int[] used = new int[STEPS];
        int usedCount;
        int stepCount;

        Run(Grammar grammar, Text text) {
            this.grammar = grammar;
            this.text = text;
        }

        char follow(Table table) {
            stack[0] = 0;
            depth = 1;
            usedCount = 0;
            stepCount = 0;
            int place = 0;
            for (int turn = 0; turn <= STEPS; turn++) {
                int state = stack[depth - 1];
                if (state < 0 || state >= table.size) {
                    return 'n';
                }
                int cell = place < text.size ? text.tokens[place] : END;
                int act = table.actAt(state, cell);
                if (act == ACCEPTS || act == NONE) {
                    return act == ACCEPTS ? 'y' : 'n';
                }
                if (turn == STEPS) {
                    return 'l';
                }
                stepCount++;
                if (act == SHIFTS) {
                    push(table.findNext(state, cell));
                    place++;
                } else {
                    reduce(table, act);
                }
            }
            return 'l';
        }

        private void reduce(Table table, int rule) {
            if (usedCount < used.length) {
                used[usedCount] = rule;
                usedCount++;
            }
            depth = Math.max(1, depth - grammar.width[rule]);
            push(table.findNext(stack[depth - 1], TOKENS + grammar.left[rule]));
        }

        private void push(int state) {
            if (depth < stack.length) {
                stack[depth] = state;
                depth++;
            }
        }
    }

    /** The trees over all spans of the text: all of them, or those alone that are not barred. */
    private static final class Forest {
        private final Grammar grammar;
        private final Looks looks;
        private final Text text;
        private final boolean barring;
        /** For each rule, place and span: in how many ways the symbols from the place on make the span. */
        private final int[] ways = new int[RULES * DOTS * ROWS * ROWS];
        /** For each rule and span: how many rules its least tree has. */
        private final int[] weights = new int[RULES * ROWS * ROWS];
        /** For each rule and place: the set of the rules that the tree there may have. */
        private final int[] allowed = new int[RULES * DOTS];
        private final int[] order = new int[NAMES];
        private int orderSize;
        private int version = NONE;
        private int levelVersion;
        private int textVersion;
        int foundRule;
        int foundBegin;
        int foundEnd;

        Forest(Grammar grammar, Looks looks, Text text, boolean barring) {
            this.grammar = grammar;
            this.looks = looks;
            this.text = text;
            this.barring = barring;
        }

        int countTrees() {
            return waysByRules(rulesOf(grammar.start), 0, text.size);
        }

        /** Finds a node of the least tree; nodes are numbered from above, then from the left to the right. */
        boolean findNode(int index) {
            int rule = lowestRule(rulesOf(grammar.start), 0, text.size);
            if (index < 0 || rule == NONE || index >= weights[spanOf(rule, 0, text.size)]) {
                return false;
            }
            foundRule = rule;
            foundBegin = 0;
            foundEnd = text.size;
            int left = index;
            // a step goes to a shorter span, or to another name over the same one
            for (int depth = 0; left > 0 && depth < ROWS * NAMES; depth++) {
                left = goDown(left - 1);
            }
            return left == 0;
        }

        /** Goes to the tree below the found node that has the node of this number, and tells its number there. */
        private int goDown(int index) {
            int rule = foundRule;
            int begin = foundBegin;
            int left = index;
            for (int place = 0; place < grammar.width[rule]; place++) {
                int end = leastEnd(rule, place, begin, foundEnd);
                if (end == NONE) {
                    return NONE;
                }
                if (grammar.partAt(rule, place) >= TOKENS) {
                    int below = lowestRule(allowed[rule * DOTS + place], begin, end);
                    int weight = below == NONE ? 0 : weights[spanOf(below, begin, end)];
                    if (left < weight) {
                        foundRule = below;
                        foundBegin = begin;
                        foundEnd = end;
                        return left;
                    }
                    left -= weight;
                }
                begin = end;
            }
            return NONE;
        }

        void refresh() {
            boolean sameLevels = !barring || levelVersion == grammar.levelVersion;
            if (version == grammar.version && textVersion == text.version && sameLevels) {
                return;
            }
            version = grammar.version;
            textVersion = text.version;
            levelVersion = grammar.levelVersion;
            Arrays.fill(ways, 0);
            orderNames();
            allowRules();
            for (int length = 0; length <= text.size; length++) {
                for (int begin = 0; begin + length <= text.size; begin++) {
                    fillSpan(begin, begin + length);
                }
            }
        }

        /** Over one span a tree has trees of those alone that its name goes round to; these come first. */
        private void orderNames() {
            int live = looks.reachedNames & looks.endingNames;
            int done = 0;
            orderSize = 0;
            for (int round = 0; round < NAMES; round++) {
                for (int name = 0; name < NAMES; name++) {
                    if (has(live & ~done, name) && (looks.around[name] & live & ~done) == 0) {
                        order[orderSize] = name;
                        orderSize++;
                        done |= 1 << name;
                    }
                }
            }
        }

        private int rulesOf(int name) {
            int set = 0;
            for (int rule = 0; rule < grammar.count; rule++) {
                if (grammar.left[rule] == name) {
                    set |= 1 << rule;
                }
            }
            return set;
        }

        private void allowRules() {
            for (int rule = 0; rule < grammar.count; rule++) {
                for (int place = 0; place < grammar.width[rule]; place++) {
                    int part = grammar.partAt(rule, place);
                    int below = part < TOKENS ? 0 : rulesOf(part - TOKENS);
                    for (int other = 0; other < grammar.count; other++) {
                        if (barring && has(below, other) && isBarred(rule, place, other)) {
                            below &= ~(1 << other);
                        }
                    }
                    allowed[rule * DOTS + place] = below;
                }
            }
        }

        private boolean isBarred(int rule, int place, int below) {
            int level = grammar.levels[rule];
            int lower = grammar.levels[below];
            if (level == 0 || lower == 0 || lower > level) {
                return false;
            }
            char side = grammar.sides[rule];
            boolean atFirst = place == 0 && side != 'l';
            boolean atLast = place == grammar.width[rule] - 1 && side != 'r';
            return lower < level || atFirst || atLast;
        }

        /**
         * Where all ahead of a place can be empty, what is from there on may be a whole tree over the span, that other
         * names need; from the other places on, trees of any name over the span may be needed, so these are later.
         */
        private void fillSpan(int begin, int end) {
            for (int i = 0; i < orderSize; i++) {
                for (int rule = 0; rule < grammar.count; rule++) {
                    if (grammar.left[rule] == order[i]) {
                        fillPlaces(rule, looks.vanishingParts(rule), 0, begin, end);
                        weigh(rule, begin, end);
                    }
                }
            }
            int live = looks.reachedNames & looks.endingNames;
            for (int rule = 0; rule < grammar.count; rule++) {
                if (has(live, grammar.left[rule])) {
                    fillPlaces(rule, grammar.width[rule], looks.vanishingParts(rule) + 1, begin, end);
                }
            }
        }

        private void fillPlaces(int rule, int from, int to, int begin, int end) {
            for (int place = from; place >= to; place--) {
                int count;
                int part = grammar.partAt(rule, place);
                if (part == NONE) {
                    count = begin == end ? 1 : 0;
                } else if (part < TOKENS) {
                    boolean fits = begin < end && text.tokens[begin] == part;
                    count = fits ? ways[tailOf(rule, place + 1, begin + 1, end)] : 0;
                } else {
                    count = waysOfName(rule, place, begin, end);
                }
                ways[tailOf(rule, place, begin, end)] = count;
            }
        }

        private int waysOfName(int rule, int place, int begin, int end) {
            int set = allowed[rule * DOTS + place];
            long sum = 0;
            for (int middle = begin; middle <= end; middle++) {
                int later = ways[tailOf(rule, place + 1, middle, end)];
                if (later > 0) {
                    sum = Math.min(TREES_TOLD, sum + (long) later * waysByRules(set, begin, middle));
                }
            }
            return (int) sum;
        }

        private int waysByRules(int set, int begin, int end) {
            int sum = 0;
            for (int rule = 0; rule < grammar.count; rule++) {
                if ((set >> rule & 1) != 0) {
                    sum = Math.min(TREES_TOLD, sum + ways[(rule * DOTS * ROWS + begin) * ROWS + end]);
                }
            }
            return sum;
        }

        private int lowestRule(int set, int begin, int end) {
            for (int rule = 0; rule < grammar.count; rule++) {
                if (has(set, rule) && ways[tailOf(rule, 0, begin, end)] > 0) {
                    return rule;
                }
            }
            return NONE;
        }

        /** Where the symbol at a place of a rule ends in the least tree, if it begins here and the rule ends there. */
        private int leastEnd(int rule, int place, int begin, int end) {
            if (grammar.partAt(rule, place) < TOKENS) {
                return begin < end ? begin + 1 : NONE;
            }
            int set = allowed[rule * DOTS + place];
            for (int middle = begin; middle <= end; middle++) {
                if (ways[tailOf(rule, place + 1, middle, end)] > 0 && lowestRule(set, begin, middle) != NONE) {
                    return middle;
                }
            }
            return NONE;
        }

        private void weigh(int rule, int begin, int end) {
            if (!barring || ways[tailOf(rule, 0, begin, end)] == 0) {
                return;
            }
            int weight = 1;
            int from = begin;
            for (int place = 0; place < grammar.width[rule] && from != NONE; place++) {
                int to = leastEnd(rule, place, from, end);
                int below = to == NONE ? NONE : lowestRule(allowed[rule * DOTS + place], from, to);
                weight += below == NONE ? 0 : weights[spanOf(below, from, to)];
                from = to;
            }
            weights[spanOf(rule, begin, end)] = weight;
        }
    }

    /** What it costs at least to make each span of the text a word of a name. */
    private static final class Mender {
        private final Grammar grammar;
        private final Looks looks;
        private final Text text;
        /** For each rule, place and span: what it costs to make the span a row of the symbols from the place on. */
        private final int[] costs = new int[RULES * DOTS * ROWS * ROWS];
        private final int[] best = new int[NAMES * ROWS * ROWS];
        private int version = NONE;
        private int textVersion;

        Mender(Grammar grammar, Looks looks, Text text) {
            this.grammar = grammar;
            this.looks = looks;
            this.text = text;
        }

        int countCost() {
            return best[spanOf(grammar.start, 0, text.size)];
        }

        void refresh() {
            if (version == grammar.version && textVersion == text.version) {
                return;
            }
            version = grammar.version;
            textVersion = text.version;
            for (int length = 0; length <= text.size; length++) {
                for (int begin = 0; begin + length <= text.size; begin++) {
                    fillSpan(begin, begin + length);
                }
            }
        }

        private boolean isUsed(int rule) {
            return has(looks.reachedNames, grammar.left[rule]);
        }

        private void fillSpan(int begin, int end) {
            for (int name = 0; name < NAMES; name++) {
                best[spanOf(name, begin, end)] = begin == end ? looks.lengths[name] : TOO_MUCH;
            }
            for (int rule = 0; rule < grammar.count; rule++) {
                if (isUsed(rule)) {
                    splitSpan(rule, begin, end);
                }
            }
            boolean sunk = true;
            // over one span a cheapest tree has no name above itself, so a round after six sinks nothing
            for (int round = 0; sunk && round <= NAMES; round++) {
                sunk = false;
                for (int rule = 0; rule < grammar.count; rule++) {
                    if (isUsed(rule)) {
                        sunk |= sink(rule, begin, end);
                    }
                }
            }
        }

        /** The costs as far as they come from shorter spans. */
        private void splitSpan(int rule, int begin, int end) {
            int width = grammar.width[rule];
            costs[tailOf(rule, width, begin, end)] = end - begin;
            for (int place = width - 1; place >= 0; place--) {
                int part = grammar.partAt(rule, place);
                int cost = TOO_MUCH;
                if (part < TOKENS) {
                    if (begin < end) {
                        int change = text.tokens[begin] == part ? 0 : 1;
                        cost = Math.min(1 + costs[tailOf(rule, place, begin + 1, end)],
                                change + costs[tailOf(rule, place + 1, begin + 1, end)]);
                    }
                } else {
                    for (int middle = begin + 1; middle < end; middle++) {
                        cost = Math.min(cost, best[spanOf(part - TOKENS, begin, middle)]
                                + costs[tailOf(rule, place + 1, middle, end)]);
                    }
                }
                costs[tailOf(rule, place, begin, end)] = Math.min(cost, TOO_MUCH);
            }
        }

        /** Lets the costs that come from the same span sink. */
        private boolean sink(int rule, int begin, int end) {
            for (int place = grammar.width[rule] - 1; place >= 0; place--) {
                int part = grammar.partAt(rule, place);
                int own = tailOf(rule, place, begin, end);
                int later = costs[tailOf(rule, place + 1, begin, end)];
                int cost;
                if (part < TOKENS) {
                    cost = 1 + later;
                } else {
                    int name = part - TOKENS;
                    cost = Math.min(best[spanOf(name, begin, begin)] + later,
                            best[spanOf(name, begin, end)] + costs[tailOf(rule, place + 1, end, end)]);
                }
                costs[own] = Math.min(costs[own], cost);
            }
            int whole = spanOf(grammar.left[rule], begin, end);
            int cost = costs[tailOf(rule, 0, begin, end)];
            boolean sunk = cost < best[whole];
            best[whole] = Math.min(cost, best[whole]);
            return sunk;
        }
    }

    /** All words up to a length of 5, as sets of bits: a word's bit is its number in the order of its length. */
    private static final class Lexicon {
        private static final int[] OFFSET = {0, 1, 2, 3, 5, 15};
        private static final int[] LONGS = {1, 1, 1, 2, 10, 49};
        private static final int[] POWER = {1, 5, 25, 125, 625, 3125};
        private static final int SET = 64;

        private final Grammar grammar;
        private final Looks looks;
        private final long[] wordsOf = new long[SYMBOLS * SET];
        /** For each rule and place, what the symbols ahead of the place make. */
        private final long[] headsOf = new long[RULES * DOTS * SET];
        private final int[] upTo = new int[LONGEST_WORD + 1];
        private int version = NONE;

        Lexicon(Grammar grammar, Looks looks) {
            this.grammar = grammar;
            this.looks = looks;
        }

        int countUpTo(int length) {
            return upTo[length];
        }

        long sumOfLengths() {
            long sum = 0;
            for (int length = 1; length <= LONGEST_WORD; length++) {
                sum += (long) length * (upTo[length] - upTo[length - 1]);
            }
            return sum;
        }

        boolean holds(Text text) {
            int number = 0;
            for (int place = 0; place < text.size && place < LONGEST_WORD; place++) {
                number = number * TOKENS + text.tokens[place];
            }
            return (wordsOf[startSet(text.size) + (number >> 6)] >>> (number & 63) & 1) != 0;
        }

        /** The token at a place of the word with this index; NONE if there is no such word or place. */
        int tokenOfWord(int index, int place) {
            if (index < 0 || index >= upTo[LONGEST_WORD]) {
                return NONE;
            }
            int length = 0;
            while (length < LONGEST_WORD && index >= upTo[length]) {
                length++;
            }
            if (place < 0 || place >= length) {
                return NONE;
            }
            int number = numberOfWord(length, index - upTo[length - 1]);
            return number / POWER[length - 1 - place] % TOKENS;
        }

        private int numberOfWord(int length, int index) {
            int left = index;
            int from = startSet(length);
            for (int i = 0; i < LONGS[length]; i++) {
                long rest = wordsOf[from + i];
                int here = Long.bitCount(rest);
                if (left < here) {
                    for (int skipped = 0; skipped < left; skipped++) {
                        rest &= rest - 1;
                    }
                    return i * 64 + lowestOf(rest);
                }
                left -= here;
            }
            return 0;
        }

        private int startSet(int length) {
            return (TOKENS + grammar.start) * SET + OFFSET[length];
        }

        void refresh() {
            if (version == grammar.version) {
                return;
            }
            version = grammar.version;
            Arrays.fill(wordsOf, 0);
            Arrays.fill(headsOf, 0);
            findEmptyHeads();
            for (int length = 1; length <= LONGEST_WORD; length++) {
                findWords(length);
            }
            int sum = 0;
            for (int length = 0; length <= LONGEST_WORD; length++) {
                for (int i = 0; i < LONGS[length]; i++) {
                    sum += Long.bitCount(wordsOf[startSet(length) + i]);
                }
                upTo[length] = sum;
            }
        }

        private boolean isUsed(int rule) {
            return has(looks.reachedNames, grammar.left[rule]);
        }

        private static int headOf(int rule, int place) {
            return (rule * DOTS + place) * SET;
        }

        private void findEmptyHeads() {
            for (int token = 0; token < TOKENS; token++) {
                wordsOf[token * SET + OFFSET[1]] = 1L << token;
            }
            for (int name = 0; name < NAMES; name++) {
                wordsOf[(TOKENS + name) * SET] = has(looks.emptyNames, name) ? 1 : 0;
            }
            for (int rule = 0; rule < grammar.count; rule++) {
                int ahead = looks.vanishingParts(rule);
                for (int place = 0; place <= ahead; place++) {
                    headsOf[headOf(rule, place)] = 1;
                }
            }
        }

        /**
         * First the words of which no one name makes all; then each name gets those of the names that it goes round to
         * or makes beside what is empty.
         */
        private void findWords(int length) {
            for (int rule = 0; rule < grammar.count; rule++) {
                if (isUsed(rule)) {
                    joinHeads(rule, length);
                    spreadHeads(rule, length);
                    int head = headOf(rule, grammar.width[rule]) + OFFSET[length];
                    int own = (TOKENS + grammar.left[rule]) * SET + OFFSET[length];
                    unite(headsOf, head, wordsOf, own, LONGS[length]);
                }
            }
            for (int name = 0; name < NAMES; name++) {
                for (int other = 0; other < NAMES; other++) {
                    if (has(looks.around[name], other)) {
                        unite(wordsOf, (TOKENS + other) * SET + OFFSET[length],
                                wordsOf, (TOKENS + name) * SET + OFFSET[length], LONGS[length]);
                    }
                }
            }
            for (int rule = 0; rule < grammar.count; rule++) {
                if (isUsed(rule)) {
                    spreadHeads(rule, length);
                }
            }
        }

        private static void unite(long[] from, int source, long[] to, int target, int longs) {
            for (int i = 0; i < longs; i++) {
                to[target + i] |= from[source + i];
            }
        }

        /** The heads that are made of two shorter rows, none of them empty. */
        private void joinHeads(int rule, int length) {
            for (int place = 0; place < grammar.width[rule]; place++) {
                int part = grammar.partAt(rule, place);
                for (int ahead = 1; ahead < length; ahead++) {
                    joinSets(headOf(rule, place), ahead, part * SET, length - ahead);
                }
            }
        }

        /** Puts each word of a length in a set ahead of all words of a length in another; the head behind gets them. */
        private void joinSets(int head, int ahead, int words, int behind) {
            int target = head + SET + OFFSET[ahead + behind];
            for (int i = 0; i < LONGS[ahead]; i++) {
                long rest = headsOf[head + OFFSET[ahead] + i];
                for (int left = Long.bitCount(rest); left > 0; left--) {
                    int number = i * 64 + lowestOf(rest);
                    orShifted(words + OFFSET[behind], LONGS[behind], target, number * POWER[behind]);
                    rest &= rest - 1;
                }
            }
        }

        private void orShifted(int source, int longs, int target, int shift) {
            int bits = shift & 63;
            int to = target + (shift >> 6);
            for (int i = 0; i < longs; i++) {
                long set = wordsOf[source + i];
                headsOf[to + i] |= set << bits;
                long over = bits == 0 ? 0 : set >>> 64 - bits;
                if (over != 0) {
                    headsOf[to + i + 1] |= over;
                }
            }
        }

        /** The heads that are made of one row of this length, all else in them being empty. */
        private void spreadHeads(int rule, int length) {
            for (int place = 0; place < grammar.width[rule]; place++) {
                int part = grammar.partAt(rule, place);
                int next = headOf(rule, place + 1) + OFFSET[length];
                if (looks.canVanish(part)) {
                    unite(headsOf, headOf(rule, place) + OFFSET[length], headsOf, next, LONGS[length]);
                }
                if (headsOf[headOf(rule, place)] != 0) {
                    unite(wordsOf, part * SET + OFFSET[length], headsOf, next, LONGS[length]);
                }
            }
        }
    }
}
