import java.util.NoSuchElementException;

/**
 * The document's sentences that name a bound: what is too small, too large, empty or full, which exception goes first
 * where several apply, and that a call that is refused changes nothing.
 */
public final class BoundaryTests {
    private static final Class<?> INDEX = IndexOutOfBoundsException.class;
    private static final Class<?> ARGUMENT = IllegalArgumentException.class;
    private static final Class<?> STATE = IllegalStateException.class;
    private static final Class<?> SUPPORT = UnsupportedOperationException.class;
    private static final Class<?> ELEMENT = NoSuchElementException.class;
    private static final Class<?> ARITHMETIC = ArithmeticException.class;
    private static final int[] BELOW = {-1, -2, -100, Integer.MIN_VALUE};
    private static final int[] ABOVE = {1, 2, 99, Integer.MAX_VALUE};

    private static final String[] SUMS = {"AAaA", "AAbA", "Ac"};
    /** Just 200 states of the kind '1'. */
    private static final String[] FULL = {"AdBda", "BA", "Aa", "BAcBaA", "BdBbAB", "AecB", "A"};
    /** 201 states of the kind '1', if all of them were made. */
    private static final String[] WIDE = {"AbbAB", "Bcb", "B", "B", "BAadc", "BecbAd", "BBAd", "BbBBb"};
    /** 4097 states of the kind '0', with one cell in doubt; 4 states of the kind '1'. */
    private static final String[] MANY = {"ABC", "BabaaD", "FabaDE", "FbaabD", "FbabaB", "DabaaF", "EbaaBE", "BababD",
        "DaabaF", "EabEFD", "EaabBa", "FaabaE", "DbBabF", "BaabaB", "BbaaED", "BababF"};

    /** 76560 states of the kind '0', more than of any other grammar that was found; 4 states of the kind '1'. */
    private static final String[] MOST = {"AABA", "EbaabD", "FbaaEF", "FabaFC", "EabaBF", "BabaaD", "EaabFE", "DbaabE",
        "EababE", "DaabaD", "CaabaE", "FaabCb", "BaabaC", "CabaaB", "DabaaF", "BbaabB"};

    private static String about = "";
    private static int checks;
    private static int wrong;

    private interface Call {
        Object call();
    }

    public static void main(String[] args) {
        signs();
        rules();
        looks();
        tables();
        manyStates();
        texts();
        parsing();
        rows();
        trees();
        repairs();
        words();
        soundness();
        nothingChanges();
        allCalls();
        System.out.println(checks + " checks, " + wrong + " wrong");
        if (wrong > 0) {
            System.exit(1);
        }
    }

    private static void is(Object got, Object due) {
        checks++;
        if (!got.equals(due)) {
            wrong++;
            System.out.println(about + ": got " + got + ", due is " + due);
            new Throwable().printStackTrace(System.out);
        }
    }

    private static Object answer(Call call) {
        try {
            return call.call();
        } catch (RuntimeException e) {
            return e.getClass();
        }
    }

    private static void fails(Class<?> due, Call call) {
        is(answer(call), due);
    }

    private static GrammarwrightHall of(String... rules) {
        GrammarwrightHall x = new GrammarwrightHall();
        for (String rule : rules) {
            int number = x.rule(rule.charAt(0));
            for (int i = 1; i < rule.length(); i++) {
                x.symbol(number, rule.charAt(i));
            }
        }
        return x;
    }

    private static GrammarwrightHall with(String text, String... rules) {
        GrammarwrightHall x = of(rules);
        for (char token : text.toCharArray()) {
            x.type(token);
        }
        return x;
    }

    /** Of all signs, those alone that the document names are taken for names, tokens, symbols, kinds and sides. */
    private static void signs() {
        about = "signs";
        GrammarwrightHall x = of(SUMS);
        GrammarwrightHall long1 = of("A");
        for (int code = 0; code < 65536; code += code < 300 || code > 65500 ? 1 : 97) {
            char sign = (char) code;
            boolean name = "ABCDEF".indexOf(sign) >= 0;
            boolean token = "abcde".indexOf(sign) >= 0;
            boolean kind = "0sl1".indexOf(sign) >= 0;
            is(answer(() -> x.canBeEmpty(sign)) == ARGUMENT, !name);
            is(answer(() -> x.first(sign)) == ARGUMENT, !name);
            is(answer(() -> x.behind(sign)) == ARGUMENT, !name);
            is(answer(() -> x.isReached(sign)) == ARGUMENT, !name);
            is(answer(() -> x.shortest(sign)) == ARGUMENT, !name);
            is(answer(() -> x.isLeftRecursive(sign)) == ARGUMENT, !name);
            is(answer(() -> x.goesRound(sign)) == ARGUMENT, !name);
            is(answer(() -> x.states(sign)) == ARGUMENT, !kind);
            is(answer(() -> x.items(sign, 0)) == ARGUMENT, !kind);
            is(answer(() -> x.doubts(sign)) == ARGUMENT, !kind);
            is(answer(() -> x.doubtAt(sign, 0)) == ARGUMENT, !kind);
            is(answer(() -> x.parse(sign)) == ARGUMENT, !kind);
            is(answer(() -> x.leadsTo(sign, 0, 'c')) == ARGUMENT, !kind);
            is(answer(() -> x.does(sign, 0, 'c')) == ARGUMENT, !kind);
            is(answer(() -> x.leadsTo('1', 0, sign)) == ARGUMENT, !name && !token);
            is(answer(() -> x.does('1', 0, sign)) == ARGUMENT, !token && sign != '$');
            is(answer(() -> x.level(0, 0, sign)) == ARGUMENT, "lrn".indexOf(sign) < 0);
            is(answer(() -> of().rule(sign)) == ARGUMENT, !name);
            is(answer(() -> of("A").symbol(0, sign)) == ARGUMENT, !name && !token);
            is(answer(() -> long1.start(sign)) == ARGUMENT, !name);
            is(answer(() -> of().type(sign)) == ARGUMENT, !token);
            is(answer(() -> of().put(0, sign)) == ARGUMENT, !token);
        }
    }

    private static void rules() {
        about = "rule and symbol";
        GrammarwrightHall x = new GrammarwrightHall();
        fails(INDEX, () -> x.symbol(0, 'a'));
        fails(INDEX, () -> x.length(0));
        fails(INDEX, () -> x.symbolAt(0, 0));
        fails(INDEX, () -> x.level(0, 0, 'n'));
        for (int rule = 0; rule < 16; rule++) {
            int next = rule + 1;
            is(x.rule((char) ('F' - rule % 6)), rule);
            is(x.rules(), next);
            for (int place = 0; place < 5; place++) {
                int at = place;
                is(x.length(rule), place);
                fails(INDEX, () -> x.symbolAt(next - 1, at));
                is(x.symbol(rule, "aFeAc".charAt(place)), place + 1);
                is(x.symbolAt(rule, place), "aFeAc".charAt(place));
            }
            fails(STATE, () -> x.symbol(next - 1, 'a'));
            fails(STATE, () -> x.symbol(next - 1, 'F'));
            fails(ARGUMENT, () -> x.symbol(next - 1, 'f'));
            fails(INDEX, () -> x.symbolAt(next - 1, 5));
            fails(INDEX, () -> x.symbolAt(next - 1, -1));
            fails(INDEX, () -> x.length(next));
            fails(INDEX, () -> x.symbol(next, 'a'));
            fails(INDEX, () -> x.symbol(next, '?'));
            fails(INDEX, () -> x.level(next, 0, 'n'));
            fails(INDEX, () -> x.symbolAt(next, 0));
        }
        fails(STATE, () -> x.rule('A'));
        fails(STATE, () -> x.rule('F'));
        fails(ARGUMENT, () -> x.rule('a'));
        is(x.rules(), 16);
        is(x.meanLength(), 5.0);
        for (int below : BELOW) {
            fails(INDEX, () -> x.length(below));
            fails(INDEX, () -> x.symbol(below, '?'));
            fails(INDEX, () -> x.symbolAt(below, below));
            fails(INDEX, () -> x.level(below, below, '?'));
            fails(ARGUMENT, () -> x.level(15, below, 'l'));
            fails(INDEX, () -> x.symbolAt(15, below));
        }
        for (int above : ABOVE) {
            fails(INDEX, () -> x.length(15 + above < 0 ? above : 15 + above));
            fails(ARGUMENT, () -> x.level(15, 9 + above < 0 ? above : 9 + above, 'r'));
            fails(INDEX, () -> x.symbolAt(15, 4 + above < 0 ? above : 4 + above));
        }

        about = "level";
        for (int level = 0; level <= 9; level++) {
            for (char side : "lrn".toCharArray()) {
                x.level(15, level, side);
                is(x.level(15, level, side), level);
            }
        }
        is(x.level(15, 0, 'l'), 9);
        is(x.level(14, 9, 'l'), 0);

        about = "start";
        char before = 'A';
        for (char name : "ABCDEFFEA".toCharArray()) {
            is(x.start(name), before);
            before = name;
        }

        about = "meanLength";
        fails(ARITHMETIC, () -> of().meanLength());
        is(of("A").meanLength(), 0.0);
        is(of("A", "Aa", "Ab").meanLength(), 2.0 / 3.0);
        is(of("A", "A", "A", "Aabc", "Aaa", "Acc", "Ad").meanLength(), 8.0 / 7.0);
    }

    private static void looks() {
        about = "looks without rules";
        GrammarwrightHall x = new GrammarwrightHall();
        for (char name : "ABCDEF".toCharArray()) {
            is(x.canBeEmpty(name), false);
            is(x.first(name), 0);
            is(x.behind(name), name == 'A' ? 32 : 0);
            is(x.isReached(name), name == 'A');
            fails(ELEMENT, () -> x.shortest(name));
            is(x.isLeftRecursive(name), false);
            is(x.goesRound(name), false);
        }
        about = "looks, all tokens and names";
        GrammarwrightHall y = of("FE", "ED", "DC", "CB", "BA", "AF", "Aabcde", "A", "Bb", "Cc", "Dd", "Ee", "EFe");
        for (char name : "ABCDEF".toCharArray()) {
            is(y.canBeEmpty(name), true);
            is(y.first(name), 31);
            is(y.behind(name), 32 + 16);
            is(y.isReached(name), true);
            is(y.shortest(name), 0);
            is(y.isLeftRecursive(name), true);
            is(y.goesRound(name), true);
        }
        // the first tokens are the least sets: a name that begins with itself alone has none
        GrammarwrightHall z = of("AA", "ABa", "BBb", "CBc", "CCA");
        is(z.first('A'), 0);
        is(z.first('B'), 0);
        is(z.first('C'), 0);
        is(z.behind('A'), 32);
        is(z.behind('B'), 1 + 2 + 4);
        is(z.behind('C'), 0);
        is(z.isLeftRecursive('C'), true);
        is(z.goesRound('C'), false);
        is(z.goesRound('A'), true);
        fails(ELEMENT, () -> z.shortest('A'));
        // what is behind a name in a rule that is never reached counts, too
        is(of("Aa", "BAe").behind('A'), 16 + 32);
        // a name beside an empty one goes round, beside one that can't be empty it is left-recursive alone
        is(of("AAB", "B").goesRound('A'), true);
        is(of("AAB", "Bb").goesRound('A'), false);
        is(of("AAB", "Bb").isLeftRecursive('A'), true);
        is(of("ABA", "B").isLeftRecursive('A'), true);
        is(of("ABA", "Bb").isLeftRecursive('A'), false);
        is(of("AaA", "A").isLeftRecursive('A'), false);
    }

    private static void tables() {
        about = "tables without rules";
        GrammarwrightHall x = new GrammarwrightHall();
        for (char kind : "0sl1".toCharArray()) {
            is(x.states(kind), 2);
            is(x.items(kind, 0), 1);
            is(x.items(kind, 1), 1);
            fails(INDEX, () -> x.items(kind, 2));
            is(x.leadsTo(kind, 0, 'A'), 1);
            fails(ELEMENT, () -> x.leadsTo(kind, 0, 'B'));
            fails(ELEMENT, () -> x.leadsTo(kind, 0, 'a'));
            fails(ELEMENT, () -> x.leadsTo(kind, 1, 'A'));
            fails(INDEX, () -> x.leadsTo(kind, 2, 'A'));
            is(x.does(kind, 1, '$'), 101);
            is(x.does(kind, 1, 'a'), -1);
            is(x.does(kind, 0, '$'), -1);
            fails(INDEX, () -> x.does(kind, 2, '$'));
            is(x.doubts(kind), 0);
            fails(INDEX, () -> x.doubtAt(kind, 0));
            is(x.parse(kind), 'n');
        }

        about = "bounds of states and cells";
        GrammarwrightHall s = of(SUMS);
        for (char kind : "0sl1".toCharArray()) {
            int size = s.states(kind);
            int cells = s.doubts(kind);
            is(cells > 0, true);
            is(s.doubtAt(kind, cells - 1) >= s.doubtAt(kind, 0), true);
            for (int below : BELOW) {
                fails(INDEX, () -> s.items(kind, below));
                fails(INDEX, () -> s.leadsTo(kind, below, 'A'));
                fails(INDEX, () -> s.does(kind, below, '$'));
                fails(INDEX, () -> s.doubtAt(kind, below));
            }
            for (int above : new int[] {0, 1, 50, Integer.MAX_VALUE - size - cells}) {
                fails(INDEX, () -> s.items(kind, size + above));
                fails(INDEX, () -> s.leadsTo(kind, size + above, 'A'));
                fails(INDEX, () -> s.does(kind, size + above, '$'));
                fails(INDEX, () -> s.doubtAt(kind, cells + above));
            }
        }
        // every rule of no symbols, each ahead of the others: the lowest number is what the cell does
        GrammarwrightHall e = of("AB", "AC", "B", "B", "C");
        is(e.doubts('0'), 6);
        is(e.doubts('1'), 1);
        is(e.does('0', 0, 'e'), 2);
        is(e.does('1', 0, 'e'), -1);
        is(e.does('1', 0, '$'), 2);

        about = "200 states, and 201";
        GrammarwrightHall full = of(FULL);
        is(full.states('1'), 200);
        is(full.items('1', 199) > 0, true);
        fails(INDEX, () -> full.items('1', 200));
        GrammarwrightHall wide = with("bcb", WIDE);
        for (char kind : "0sl1".toCharArray()) {
            is(full.states(kind) > 0, true);
            fails(SUPPORT, () -> wide.states(kind));
            fails(SUPPORT, () -> wide.items(kind, -1));
            fails(SUPPORT, () -> wide.leadsTo(kind, -1, 'A'));
            fails(ARGUMENT, () -> wide.leadsTo(kind, -1, 'f'));
            fails(SUPPORT, () -> wide.does(kind, 0, '$'));
            fails(ARGUMENT, () -> wide.does(kind, 0, 'A'));
            fails(SUPPORT, () -> wide.doubts(kind));
            fails(SUPPORT, () -> wide.doubtAt(kind, 0));
            fails(SUPPORT, () -> wide.parse(kind));
        }
        is(wide.steps(), 0);
        is(wide.isSound(), true);
    }

    /** For the kinds '0' and 's' the document tells no bound. */
    private static void manyStates() {
        about = "very many states";
        // asked ahead of anything else
        is(of(MANY).doubtAt('0', 0), 2501);
        fails(INDEX, () -> of(MANY).doubtAt('0', 1));
        is(of(MANY).leadsTo('s', 0, 'A'), 3);
        GrammarwrightHall most = of(MOST);
        is(most.states('s'), 76560);
        is(most.states('1'), 4);
        is(most.items('0', 76559) > 0, true);
        fails(INDEX, () -> most.items('0', 76560));
        is(most.doubts('0'), 2);
        is(most.isSound(), true);
        GrammarwrightHall x = of(MANY);
        for (int round = 0; round < 3; round++) {
            is(x.states('1'), 4);
            is(x.states('l'), 4);
            is(x.states('0'), 4097);
            is(x.states('s'), 4097);
            is(x.items('0', 4096) > 0, true);
            fails(INDEX, () -> x.items('0', 4097));
            fails(INDEX, () -> x.does('s', 4097, '$'));
            fails(INDEX, () -> x.leadsTo('0', 4097, 'a'));
            fails(INDEX, () -> x.items('1', 4));
            is(x.doubts('0'), 1);
            fails(INDEX, () -> x.doubtAt('0', 1));
            is(x.doubtAt('0', 0) / 10 < 4097, true);
            is(x.isSound(), true);
            ledToOnce(x);
            x.start('C');
            is(x.states('0'), 2);
            is(x.states('1'), 2);
            is(x.doubts('0'), 0);
            fails(INDEX, () -> x.items('0', 2));
            x.start('A');
        }
    }

    /** Each state but the state 0 is led to from one found ahead of it, and each is found in its turn. */
    private static void ledToOnce(GrammarwrightHall x) {
        int found = 0;
        for (int state = 0; state < 4097; state++) {
            for (char symbol : "abcdeABCDEF".toCharArray()) {
                int from = state;
                Object next = answer(() -> x.leadsTo('0', from, symbol));
                if (next instanceof Integer) {
                    int to = (Integer) next;
                    if (to <= 0 || to > found + 1) {
                        is("the state " + state + " leads to " + to, "the states up to " + (found + 1));
                    }
                    found = Math.max(found, to);
                }
            }
        }
        is(found, 4096);
    }

    private static void texts() {
        about = "text";
        GrammarwrightHall x = new GrammarwrightHall();
        fails(INDEX, () -> x.cut(0));
        fails(INDEX, () -> x.put(1, 'a'));
        fails(INDEX, () -> x.put(-1, 'a'));
        fails(INDEX, () -> x.put(1, '?'));
        fails(ARGUMENT, () -> x.put(0, '?'));
        for (int n = 1; n <= 12; n++) {
            int size = n;
            is(x.put(n / 2, "abcde".charAt(n % 5)), n);
            fails(INDEX, () -> x.cut(size));
            fails(INDEX, () -> x.put(size + 1, 'a'));
        }
        for (int place = 0; place <= 12; place++) {
            int at = place;
            fails(STATE, () -> x.put(at, 'a'));
            fails(ARGUMENT, () -> x.put(at, 'A'));
        }
        fails(STATE, () -> x.type('e'));
        fails(ARGUMENT, () -> x.type('f'));
        fails(INDEX, () -> x.put(13, 'a'));
        for (int below : BELOW) {
            fails(INDEX, () -> x.put(below, '?'));
            fails(INDEX, () -> x.cut(below));
        }
        fails(INDEX, () -> x.cut(12));
        fails(INDEX, () -> x.cut(Integer.MAX_VALUE));
        StringBuilder text = new StringBuilder();
        for (int n = 1; n <= 12; n++) {
            text.insert(n / 2, "abcde".charAt(n % 5));
        }
        is(x.cut(11), text.charAt(11));
        is(x.cut(0), text.charAt(0));
        is(x.type('a'), 11);
        is(x.put(0, 'b'), 12);
        fails(STATE, () -> x.type('a'));
        is(x.erase(), 12);
        is(x.erase(), 0);
        fails(INDEX, () -> x.cut(0));
        is(x.type('a'), 1);
        is(x.cut(0), 'a');
        is(x.erase(), 0);
    }

    private static void parsing() {
        about = "parse";
        GrammarwrightHall x = new GrammarwrightHall();
        is(x.steps(), 0);
        fails(INDEX, () -> x.reducedBy(0));
        // an empty text is shifted nowhere, and accepted after one reduction
        GrammarwrightHall e = of("A");
        is(e.parse('1'), 'y');
        is(e.steps(), 1);
        is(e.reducedBy(0), 0);
        fails(INDEX, () -> e.reducedBy(1));
        fails(INDEX, () -> e.reducedBy(-1));
        fails(INDEX, () -> e.reducedBy(Integer.MAX_VALUE));
        fails(INDEX, () -> e.reducedBy(Integer.MIN_VALUE));
        e.type('a');
        // the last parsing is told, until there is another one
        is(e.steps(), 1);
        e.parse('1');
        is(e.steps(), 0);
        fails(INDEX, () -> e.reducedBy(0));
        is(e.parse('0'), 'n');
        is(e.steps(), 1);
        is(e.reducedBy(0), 0);
        fails(ARGUMENT, () -> e.parse('x'));
        is(e.steps(), 1);
        // a parsing that ends never is over ahead of its 401st step
        GrammarwrightHall over = with("a", "ABA", "Ac", "B");
        is(over.parse('0'), 'l');
        is(over.steps(), 400);
        for (int i = 0; i < 400; i++) {
            is(over.reducedBy(i), 2);
        }
        fails(INDEX, () -> over.reducedBy(400));
        over.start('B');
        is(over.steps(), 400);
        is(over.reducedBy(399), 2);
        // the words of 12 tokens
        GrammarwrightHall full = with("cacbcacbcac", SUMS);
        is(full.parse('1'), 'y');
        is(full.steps(), 11 + 6 + 5);
        full.type('a');
        is(full.parse('1'), 'n');
    }

    private static void rows() {
        about = "rows";
        GrammarwrightHall x = new GrammarwrightHall();
        is(x.isWord(), false);
        is(x.kept(), 1);
        is(x.itemsIn(0), 1);
        fails(INDEX, () -> x.itemsIn(1));
        for (int below : BELOW) {
            fails(INDEX, () -> x.itemsIn(below));
        }
        GrammarwrightHall y = with("cacbcacbca", SUMS);
        fails(INDEX, () -> y.itemsIn(11));
        fails(INDEX, () -> y.itemsIn(Integer.MAX_VALUE));
        is(y.kept(), 0);
        is(y.reckoned(), 0);
        is(y.itemsIn(10) > 0, true);
        is(y.kept(), 11);
        is(y.reckoned(), 11);
        is(y.isWord(), false);
        is(y.reckoned(), 11);
        y.cut(9);
        is(y.kept(), 10);
        is(y.isWord(), true);
        is(y.reckoned(), 11);
        fails(INDEX, () -> y.itemsIn(10));
        y.cut(0);
        is(y.kept(), 1);
        is(y.isWord(), false);
        is(y.reckoned(), 11 + 8);
        // an edit behind the rows that are kept takes none of them
        y.put(0, 'c');
        y.itemsIn(3);
        is(y.kept(), 4);
        y.put(4, 'a');
        is(y.kept(), 4);
        y.put(3, 'a');
        is(y.kept(), 4);
        y.put(2, 'a');
        is(y.kept(), 3);
        fails(STATE, () -> with("aaaaaaaaaaaa").type('a'));

        about = "the last row of a full text";
        GrammarwrightHall full = with("bbbbbbbbbbbb", "AbA", "A");
        for (int row = 0; row <= 12; row++) {
            // the rules at first, moved on once and at the end, and the one more rule
            is(full.itemsIn(row), row == 0 ? 4 : 2 + 1 + row + 1);
            is(full.reckoned(), row + 1);
        }
        fails(INDEX, () -> full.itemsIn(13));
        is(full.isWord(), true);
        is(full.kept(), 13);
        is(full.erase(), 12);
        is(full.kept(), 1);
        fails(INDEX, () -> full.itemsIn(1));

        about = "empty rows";
        GrammarwrightHall none = with("ddd", SUMS);
        is(none.isWord(), false);
        is(none.reckoned(), 4);
        is(none.kept(), 4);
        is(none.itemsIn(1), 0);
        is(none.itemsIn(3), 0);
        is(none.reckoned(), 4);

        about = "changes of the grammar";
        GrammarwrightHall z = with("c", SUMS);
        z.isWord();
        z.level(0, 0, 'n');
        z.level(0, 9, 'l');
        is(z.kept(), 2);
        z.start('A');
        is(z.kept(), 0);
        z.isWord();
        z.symbol(2, 'c');
        is(z.kept(), 0);
        is(z.isWord(), false);
        z.rule('E');
        is(z.kept(), 0);
        is(z.reckoned(), 6);
    }

    private static void trees() {
        about = "trees";
        is(new GrammarwrightHall().trees(), 0);
        is(new GrammarwrightHall().treesLeft(), 0);
        fails(ELEMENT, () -> new GrammarwrightHall().treeRule(0));
        fails(ELEMENT, () -> new GrammarwrightHall().treeSpan(0));
        is(of("A").trees(), 1);
        is(of("A").treeRule(0), 0);
        is(of("A").treeSpan(0), 0);
        fails(ELEMENT, () -> of("A").treeRule(1));
        for (int below : BELOW) {
            fails(ELEMENT, () -> of("A").treeRule(below));
            fails(ELEMENT, () -> of("A").treeSpan(below));
        }
        fails(ELEMENT, () -> of("A").treeRule(Integer.MAX_VALUE));
        fails(ELEMENT, () -> of("A").treeSpan(Integer.MAX_VALUE));

        about = "1000000 trees at most";
        // two rules for each of twelve tokens, and so on
        is(with("aaaaaaaaaaaa", "AaA", "AaA", "A").trees(), 4096);
        is(with("aaaaaaaaaaaa", "AaA", "AaA", "AaA", "A").trees(), 531441);
        is(with("aaaaaaaaaaaa", "AaA", "AaA", "AaA", "A", "A").trees(), 1000000);
        is(with("aaaaaa", "AaB", "BaB", "BaB", "BaB", "BaB", "BaB", "BaB", "BaB", "BaB", "BaB", "BaB", "B").trees(), 100000);
        is(with("aaaaaaa", "AaB", "BaB", "BaB", "BaB", "BaB", "BaB", "BaB", "BaB", "BaB", "BaB", "BaB", "B").trees(), 1000000);
        is(with("aaaaaaa", "AaB", "BaB", "BaB", "BaB", "BaB", "BaB", "BaB", "BaB", "BaB", "BaB", "BaB", "B").treesLeft(), 1000000);
        is(with("aaaaaaaaaaaa", "AaB", "BaB", "BaB", "BaB", "BaB", "BaB", "BaB", "BaB", "BaB", "BaB", "BaB", "B").trees(), 1000000);
        // far more trees than an int can count, over one place
        GrammarwrightHall huge = of("ABBBBB", "BCCCCC", "CDDDDD", "DEEEEE", "EFFFFF", "F", "F");
        is(huge.trees(), 1000000);
        is(huge.treesLeft(), 1000000);
        is(huge.treeRule(3905), 5);
        fails(ELEMENT, () -> huge.treeRule(3906));

        about = "a name that goes round";
        GrammarwrightHall round = with("a", "Aa", "BB", "Ba", "CC");
        is(round.trees(), 1);
        round.start('B');
        fails(SUPPORT, () -> round.trees());
        fails(SUPPORT, () -> round.treesLeft());
        fails(SUPPORT, () -> round.treeRule(-1));
        fails(SUPPORT, () -> round.treeSpan(Integer.MAX_VALUE));
        round.start('C');
        is(round.trees(), 0);
        fails(ELEMENT, () -> round.treeRule(0));

        about = "levels";
        // levels from 1 to 9 are compared, 0 bars nothing
        for (int above = 0; above <= 9; above++) {
            for (int below = 0; below <= 9; below++) {
                for (char side : "lrn".toCharArray()) {
                    GrammarwrightHall x = with("adb", "AaBb", "Bd");
                    x.level(0, above, side);
                    x.level(1, below, side);
                    is(x.treesLeft(), above > 0 && below > 0 && below < above ? 0 : 1);
                    is(x.trees(), 1);
                    GrammarwrightHall last = with("ad", "AaB", "Bd");
                    last.level(0, above, side);
                    last.level(1, below, side == 'l' ? 'r' : 'l');
                    boolean same = above == below && side != 'r';
                    is(last.treesLeft(), above > 0 && below > 0 && (below < above || same) ? 0 : 1);
                    GrammarwrightHall first = with("da", "ABa", "Bd");
                    first.level(0, above, side);
                    first.level(1, below, side == 'l' ? 'r' : 'l');
                    same = above == below && side != 'l';
                    is(first.treesLeft(), above > 0 && below > 0 && (below < above || same) ? 0 : 1);
                    GrammarwrightHall alone = with("d", "AB", "Bd");
                    alone.level(0, above, side);
                    alone.level(1, below, side == 'l' ? 'r' : 'l');
                    is(alone.treesLeft(), above > 0 && below > 0 && below <= above ? 0 : 1);
                }
            }
        }
        // what is barred far below bars the whole tree
        GrammarwrightHall deep = with("c", "AB", "BC", "CD", "Dc");
        deep.level(2, 5, 'n');
        deep.level(3, 4, 'n');
        is(deep.trees(), 1);
        is(deep.treesLeft(), 0);
        // a name between does not hide, but ends, what is compared
        deep.level(1, 6, 'n');
        deep.level(2, 0, 'n');
        is(deep.treesLeft(), 1);
    }

    private static void repairs() {
        about = "repair";
        fails(ELEMENT, () -> new GrammarwrightHall().repair());
        is(of("A").repair(), 0);
        is(with("abcdeabcdeab", "A").repair(), 12);
        is(with("", "Aabcde").repair(), 5);
        is(with("aaaaaaaaaaaa", "Ab").repair(), 12);
        is(with("aaaaaaaaaaaa", "Aa").repair(), 11);
        is(with("b", "Aa").repair(), 1);
        is(with("ba", "Aab").repair(), 2);
        is(with("bab", "Aab").repair(), 1);
        GrammarwrightHall x = with("a", "AB", "BBb", "Cc");
        fails(ELEMENT, () -> x.repair());
        x.start('C');
        is(x.repair(), 1);
        x.start('D');
        fails(ELEMENT, () -> x.repair());
    }

    private static void words() {
        about = "words";
        GrammarwrightHall none = new GrammarwrightHall();
        GrammarwrightHall empty = of("A");
        GrammarwrightHall all = of("AaA", "AbA", "AcA", "AdA", "AeA", "A");
        int[] sums = {1, 6, 31, 156, 781, 3906};
        for (int length = 0; length <= 5; length++) {
            is(none.words(length), 0);
            is(empty.words(length), 1);
            is(all.words(length), sums[length]);
        }
        for (GrammarwrightHall x : new GrammarwrightHall[] {none, empty, all}) {
            for (int below : BELOW) {
                fails(ARGUMENT, () -> x.words(below));
                fails(INDEX, () -> x.wordAt(below, 0));
                fails(INDEX, () -> x.wordAt(0, below));
                fails(INDEX, () -> x.wordAt(1, below));
            }
            for (int above : ABOVE) {
                fails(ARGUMENT, () -> x.words(Math.max(above, 5 + above)));
            }
            // the word 0 is the empty one, or there is none
            fails(INDEX, () -> x.wordAt(0, 0));
            fails(INDEX, () -> x.wordAt(3906, 0));
            fails(INDEX, () -> x.wordAt(Integer.MAX_VALUE, 0));
        }
        is(none.allTokens(), 0L);
        is(empty.allTokens(), 0L);
        is(none.wordShare(), 0f);
        is(empty.wordShare(), 1f / 3906f);
        is(all.wordShare(), 1f);
        fails(INDEX, () -> empty.wordAt(1, 0));
        int index = 0;
        for (int length = 0; length <= 5; length++) {
            int many = sums[length] - (length == 0 ? 0 : sums[length - 1]);
            for (int number = 0; number < many; number++) {
                int at = index;
                int end = length;
                int left = number;
                for (int place = length - 1; place >= 0; place--) {
                    is(all.wordAt(index, place), (char) ('a' + left % 5));
                    left /= 5;
                }
                fails(INDEX, () -> all.wordAt(at, end));
                index++;
            }
        }
        // a word of 5 tokens is among them, one of 6 is not
        is(of("Aabcde").words(5), 1);
        is(of("Aabcde").words(4), 0);
        is(of("Aabcde").wordAt(0, 4), 'e');
        is(of("AaB", "Babcde").words(5), 0);
        // one word that is made in two ways is one word
        is(of("Aa", "Aa", "AB", "Ba").words(5), 1);
    }

    /** Texts of each length, words and others, in grammars with doubts and without. */
    private static void soundness() {
        about = "isSound";
        String[][] grammars = {{"AaA", "A"}, {"AaA", "AbA", "A"}, {"AAa", "A"}, {"AaAb", "A"}, {"AaAa", "A", "Aa"}, {},
            {"AA"}, {"AAA", "Aa"}, {"AA", "Aa", "AbB", "BB"}};
        for (String[] grammar : grammars) {
            for (char last : "ab".toCharArray()) {
                GrammarwrightHall x = of(grammar);
                for (int size = 0; size <= 12; size++) {
                    is(x.isSound(), true);
                    is(x.kept() + x.reckoned() + x.steps(), 0);
                    if (size < 12) {
                        x.put(0, size == 0 ? last : 'a');
                    }
                }
            }
        }
    }

    /** All that an object tells without being changed but for its rows, which are kept all behind it. */
    private static String shown(GrammarwrightHall x) {
        StringBuilder all = new StringBuilder();
        Call[] calls = {x::rules, x::kept, x::reckoned, x::steps, x::isWord, x::kept, x::reckoned, x::trees, x::treesLeft,
            x::repair, x::allTokens, x::wordShare, x::meanLength, x::isSound, () -> x.treeSpan(0), () -> x.treeRule(1)};
        for (Call call : calls) {
            all.append(answer(call)).append(' ');
        }
        for (int i = 0; i < 16; i++) {
            int at = i;
            all.append(answer(() -> x.length(at))).append(answer(() -> x.symbolAt(at, 0)));
            all.append(answer(() -> x.reducedBy(at))).append(answer(() -> x.itemsIn(at)));
        }
        for (char name : "ABCDEF".toCharArray()) {
            all.append(x.behind(name)).append(' ').append(x.first(name)).append(' ');
        }
        for (char kind : "0sl1".toCharArray()) {
            all.append(answer(() -> x.states(kind))).append(answer(() -> x.doubts(kind)));
        }
        return all.toString();
    }

    private static void refused(GrammarwrightHall x, Class<?> due, Call call) {
        x.isWord();
        int kept = x.kept();
        String before = shown(x);
        fails(due, call);
        is(x.kept(), kept);
        is(shown(x), before);
    }

    private static void nothingChanges() {
        about = "a refused call";
        GrammarwrightHall x = with("cacbc", "AAaA", "AAbA", "Ac", "AB", "BbCaCb", "C");
        x.level(0, 1, 'l');
        x.level(1, 2, 'r');
        x.parse('1');
        refused(x, ARGUMENT, () -> x.rule('G'));
        refused(x, INDEX, () -> x.symbol(6, 'a'));
        refused(x, ARGUMENT, () -> x.symbol(0, 'z'));
        refused(x, STATE, () -> x.symbol(4, 'a'));
        refused(x, INDEX, () -> x.level(6, 9, 'l'));
        refused(x, ARGUMENT, () -> x.level(0, 10, 'r'));
        refused(x, ARGUMENT, () -> x.level(0, 9, 'x'));
        refused(x, ARGUMENT, () -> x.start('a'));
        refused(x, INDEX, () -> x.length(6));
        refused(x, INDEX, () -> x.symbolAt(0, 3));
        refused(x, ARGUMENT, () -> x.first('a'));
        refused(x, ELEMENT, () -> x.shortest('D'));
        refused(x, ARGUMENT, () -> x.states('2'));
        refused(x, INDEX, () -> x.items('1', 999));
        refused(x, ELEMENT, () -> x.leadsTo('1', 0, 'e'));
        refused(x, INDEX, () -> x.does('1', -1, 'e'));
        refused(x, INDEX, () -> x.doubtAt('1', 999));
        refused(x, ARGUMENT, () -> x.type('f'));
        refused(x, INDEX, () -> x.put(6, 'a'));
        refused(x, ARGUMENT, () -> x.put(0, 'f'));
        refused(x, INDEX, () -> x.cut(5));
        refused(x, ARGUMENT, () -> x.parse('x'));
        refused(x, INDEX, () -> x.reducedBy(99));
        refused(x, INDEX, () -> x.itemsIn(6));
        refused(x, ELEMENT, () -> x.treeRule(99));
        refused(x, ELEMENT, () -> x.treeSpan(-1));
        refused(x, ARGUMENT, () -> x.words(6));
        refused(x, INDEX, () -> x.wordAt(0, 9));
        is(x.level(0, 1, 'l'), 1);
        is(x.level(1, 2, 'r'), 2);
        for (int place = 4; place >= 0; place--) {
            is(x.cut(place), "cacbc".charAt(place));
        }
        is(x.erase(), 0);

        GrammarwrightHall full = with("aaaaaaaaaaaa", "A", "A", "A", "A", "A", "A", "A", "A", "A", "A", "A", "A", "A", "A", "A", "Aaaaaa");
        refused(full, STATE, () -> full.rule('B'));
        refused(full, STATE, () -> full.symbol(15, 'B'));
        refused(full, STATE, () -> full.type('a'));
        refused(full, STATE, () -> full.put(0, 'b'));
        GrammarwrightHall wide = with("bcb", WIDE);
        refused(wide, SUPPORT, () -> wide.parse('0'));
        GrammarwrightHall none = new GrammarwrightHall();
        refused(none, ELEMENT, () -> none.repair());
        refused(none, ARITHMETIC, () -> none.meanLength());
        GrammarwrightHall round = with("a", "AA", "Aa");
        refused(round, SUPPORT, () -> round.trees());
        refused(round, SUPPORT, () -> round.treesLeft());
    }

    /** An object stands 512 calls that change and ask it by turns. */
    private static void allCalls() {
        about = "512 calls";
        GrammarwrightHall x = of(SUMS);
        int calls = 8;
        for (int turn = 0; calls < 500; turn++) {
            is(x.start(turn % 2 == 0 ? 'B' : 'A'), turn % 2 == 0 ? 'A' : 'B');
            is(x.kept(), 0);
            is(x.isWord(), false);
            is(x.states('1') > 0, true);
            is(x.words(5), turn % 2 == 0 ? 0 : 1 + 2 + 4);
            is(x.isSound(), true);
            is(x.reckoned(), turn + 1);
            calls += 7;
        }
    }
}
