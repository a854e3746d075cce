import java.util.NoSuchElementException;

/** For each promise of the document ordinary inputs, the edges that it names and wrong inputs. */
public final class PromiseTests {
    private static final Class<?> INDEX = IndexOutOfBoundsException.class;
    private static final Class<?> ARGUMENT = IllegalArgumentException.class;
    private static final Class<?> STATE = IllegalStateException.class;
    private static final Class<?> SUPPORT = UnsupportedOperationException.class;
    private static final Class<?> ELEMENT = NoSuchElementException.class;
    private static final Class<?> ARITHMETIC = ArithmeticException.class;
    private static final char[] NO_NAMES = {'@', 'G', 'a', 'g', '$', (char) 0, (char) 65535};
    private static final char[] NO_TOKENS = {'`', 'f', 'A', '$', (char) 0, (char) 65535};
    private static final char[] NO_KINDS = {'L', 'S', '2', 'O', ' ', (char) 0, (char) 65535};
    private static final int[] FAR = {-1, Integer.MIN_VALUE, Integer.MAX_VALUE};

    /** Sums, of which a text has many trees. */
    private static final String[] SUMS = {"AAaA", "AAbA", "Ac"};
    /** No doubts in the kind '1', some in the kind 'l'. */
    private static final String[] STRONG = {"AaBd", "AbCd", "AaCe", "AbBe", "Bc", "Cc"};
    /** No doubts in the kind 'l', some in the kind 's'. */
    private static final String[] MIDDLE = {"ABaC", "AC", "BbC", "Bc", "CB"};
    /** Some names are empty. */
    private static final String[] EMPTY = {"ABAa", "Ab", "B", "Bc"};
    /** Just 200 states of the kind '1'. */
    private static final String[] FULL = {"AdBda", "BA", "Aa", "BAcBaA", "BdBbAB", "AecB", "A"};
    /** 201 states of the kind '1', if all of them were made. */
    private static final String[] WIDE = {"AbbAB", "Bcb", "B", "B", "BAadc", "BecbAd", "BBAd", "BbBBb"};
    /** The empty word has one tree, of 400 rules. */
    private static final String[] LONG = {"ACCDDB", "CDDDDD", "DEEEEE", "EFFFFF", "BEEEE", "F"};

    private static int promise;
    private static int checks;
    private static int wrong;

    private interface Call {
        Object call();
    }

    public static void main(String[] args) {
        rules();
        looks();
        tables();
        text();
        parsing();
        rows();
        trees();
        repairAndWords();
        soundness();
        example();
        System.out.println(checks + " checks, " + wrong + " wrong");
        if (wrong > 0) {
            System.exit(1);
        }
    }

    private static void is(Object got, Object due) {
        checks++;
        if (!got.equals(due)) {
            wrong++;
            System.out.println("promise " + promise + ", check " + checks + ": got " + got + ", due is " + due);
            new Throwable().printStackTrace(System.out);
        }
    }

    private static void fails(Class<?> due, Call call) {
        Object got = "nothing thrown";
        try {
            call.call();
        } catch (RuntimeException e) {
            got = e.getClass();
        }
        is(got, due);
    }

    /** A grammar, each rule with its name ahead. */
    private static GrammarwrightHall of(String... rules) {
        GrammarwrightHall x = new GrammarwrightHall();
        for (String rule : rules) {
            int number = x.rule(rule.charAt(0));
            for (int i = 1; i < rule.length(); i++) {
                x.symbol(number, rule.charAt(i));
            }
        }
        return x;
    }

    private static GrammarwrightHall with(String text, String... rules) {
        return write(of(rules), text);
    }

    private static GrammarwrightHall write(GrammarwrightHall x, String text) {
        x.erase();
        for (char token : text.toCharArray()) {
            x.type(token);
        }
        return x;
    }

    private static void rules() {
        promise = 1;
        GrammarwrightHall x = new GrammarwrightHall();
        is(x.rules(), 0);
        is(x.start('A'), 'A');
        is(x.erase(), 0);
        is(x.kept(), 0);
        is(x.reckoned(), 0);
        is(x.steps(), 0);

        promise = 2;
        GrammarwrightHall r = new GrammarwrightHall();
        for (char none : NO_NAMES) {
            fails(ARGUMENT, () -> r.rule(none));
        }
        is(r.rules(), 0);
        for (int i = 0; i < 16; i++) {
            is(r.rule((char) ('A' + i % 6)), i);
        }
        fails(STATE, () -> r.rule('A'));
        fails(ARGUMENT, () -> r.rule('G'));
        is(r.rules(), 16);
        is(r.length(15), 0);

        promise = 3;
        for (int far : FAR) {
            fails(INDEX, () -> r.symbol(far, 'x'));
        }
        fails(INDEX, () -> r.symbol(16, 'a'));
        is(r.symbol(15, 'e'), 1);
        is(r.symbol(15, 'F'), 2);
        is(r.symbol(15, 'a'), 3);
        is(r.symbol(15, 'A'), 4);
        fails(ARGUMENT, () -> r.symbol(15, 'f'));
        is(r.symbol(15, 'c'), 5);
        fails(STATE, () -> r.symbol(15, 'c'));
        fails(ARGUMENT, () -> r.symbol(15, 'G'));
        fails(ARGUMENT, () -> r.symbol(14, '$'));
        is(r.length(14), 0);

        promise = 4;
        is(r.level(0, 9, 'l'), 0);
        is(r.level(0, 0, 'r'), 9);
        is(r.level(0, 3, 'n'), 0);
        for (int far : FAR) {
            fails(INDEX, () -> r.level(far, 10, 'x'));
            fails(ARGUMENT, () -> r.level(0, far, 'l'));
        }
        fails(INDEX, () -> r.level(16, 1, 'l'));
        fails(ARGUMENT, () -> r.level(0, 10, 'l'));
        fails(ARGUMENT, () -> r.level(0, 1, 'L'));
        is(r.level(0, 1, 'l'), 3);

        promise = 5;
        is(r.start('F'), 'A');
        for (char none : NO_NAMES) {
            fails(ARGUMENT, () -> r.start(none));
        }
        is(r.start('B'), 'F');
        is(r.start('B'), 'B');

        promise = 6;
        is(of(SUMS).rules(), 3);

        promise = 7;
        is(of(SUMS).length(0), 3);
        is(of(SUMS).length(2), 1);
        is(of(EMPTY).length(2), 0);
        fails(INDEX, () -> of(SUMS).length(3));
        fails(INDEX, () -> of(SUMS).length(-1));

        promise = 8;
        is(r.symbolAt(15, 0), 'e');
        is(r.symbolAt(15, 1), 'F');
        is(r.symbolAt(15, 2), 'a');
        is(r.symbolAt(15, 3), 'A');
        is(r.symbolAt(15, 4), 'c');
        fails(INDEX, () -> r.symbolAt(15, 5));
        fails(INDEX, () -> r.symbolAt(14, 0));
        for (int far : FAR) {
            fails(INDEX, () -> r.symbolAt(15, far));
            fails(INDEX, () -> r.symbolAt(far, 0));
        }

        promise = 42;
        is(of(SUMS).meanLength(), 7.0 / 3.0);
        is(of("A").meanLength(), 0.0);
        fails(ARITHMETIC, () -> new GrammarwrightHall().meanLength());
    }

    private static void looks() {
        GrammarwrightHall x = of("ABCd", "B", "BbB", "CBB", "CDe", "DD", "EaE", "FFe", "Fa");
        promise = 9;
        is(x.canBeEmpty('A'), false);
        is(x.canBeEmpty('B'), true);
        is(x.canBeEmpty('C'), true);
        is(x.canBeEmpty('D'), false);
        is(x.canBeEmpty('E'), false);
        is(new GrammarwrightHall().canBeEmpty('A'), false);
        // each name is known by the one behind it alone
        GrammarwrightHall down = of("AB", "BC", "CD", "DE", "EF", "F", "Fa");
        GrammarwrightHall up = of("Fa", "F", "EF", "DE", "CD", "BC", "AB");
        for (char name : "ABCDEF".toCharArray()) {
            for (GrammarwrightHall chain : new GrammarwrightHall[] {down, up}) {
                promise = 9;
                is(chain.canBeEmpty(name), true);
                promise = 10;
                is(chain.first(name), 1);
                promise = 11;
                is(chain.behind(name), 32);
                promise = 12;
                is(chain.isReached(name), true);
                promise = 13;
                is(chain.shortest(name), 0);
                promise = 14;
                is(chain.isLeftRecursive(name), false);
            }
        }

        promise = 10;
        is(x.first('A'), 2 + 8);
        is(x.first('B'), 2);
        is(x.first('C'), 2);
        is(x.first('D'), 0);
        is(x.first('E'), 1);
        is(x.first('F'), 1);
        is(of("ABe", "BCd", "B", "CAc", "C", "Cb").first('A'), 2 + 8 + 16);

        promise = 11;
        is(x.behind('A'), 32);
        is(x.behind('B'), 2 + 8);
        is(x.behind('C'), 8);
        is(x.behind('D'), 16);
        is(x.behind('E'), 0);
        is(x.behind('F'), 16);
        x.start('F');
        is(x.behind('F'), 48);
        is(x.behind('A'), 0);
        is(of("AaBC", "Cc", "C").behind('B'), 4 + 32);
        is(of("EFB", "DEB", "CDB", "ACB", "B").behind('F'), 32);

        promise = 12;
        x.start('A');
        is(x.isReached('A'), true);
        is(x.isReached('C'), true);
        is(x.isReached('D'), true);
        is(x.isReached('E'), false);
        x.start('E');
        is(x.isReached('E'), true);
        is(x.isReached('A'), false);
        is(new GrammarwrightHall().isReached('A'), true);

        promise = 13;
        is(x.shortest('A'), 1);
        is(x.shortest('B'), 0);
        is(x.shortest('F'), 1);
        fails(ELEMENT, () -> x.shortest('D'));
        fails(ELEMENT, () -> x.shortest('E'));
        GrammarwrightHall deep = of("ABBBBB", "BCCCCC", "CDDDDD", "DEEEEE", "EFFFFF", "Faaaaa");
        is(deep.shortest('A'), 15625);
        promise = 37;
        is(write(deep, "aaaaaaaaaaaa").repair(), 15625 - 12);

        promise = 14;
        is(of(SUMS).isLeftRecursive('A'), true);
        is(of(EMPTY).isLeftRecursive('A'), true);
        is(of(EMPTY).isLeftRecursive('B'), false);
        is(of("AbA", "Aa").isLeftRecursive('A'), false);
        is(of("ABa", "BCb", "CAc").isLeftRecursive('A'), true);
        is(of("ABa", "BCb", "CAc").isLeftRecursive('B'), true);
        is(of("ABa", "BCb", "CAc").isLeftRecursive('C'), true);
        is(of("ABa", "BCb", "CBc").isLeftRecursive('A'), false);
        is(of("ACAb", "Cc").isLeftRecursive('A'), false);

        promise = 15;
        is(of(EMPTY).goesRound('A'), false);
        is(of("AA").goesRound('A'), true);
        is(of("ABAB", "B").goesRound('A'), true);
        is(of("ABC", "BA", "C").goesRound('A'), true);
        is(of("ABC", "BA", "C").goesRound('B'), true);
        is(of("ABC", "BA", "C").goesRound('C'), false);
        is(of("ABC", "BA", "Cc").goesRound('B'), false);
        is(of("AAA", "A").goesRound('A'), true);
        is(of("AB", "BB").goesRound('A'), false);

        for (char none : NO_NAMES) {
            promise = 9;
            fails(ARGUMENT, () -> x.canBeEmpty(none));
            promise = 10;
            fails(ARGUMENT, () -> x.first(none));
            promise = 11;
            fails(ARGUMENT, () -> x.behind(none));
            promise = 12;
            fails(ARGUMENT, () -> x.isReached(none));
            promise = 13;
            fails(ARGUMENT, () -> x.shortest(none));
            promise = 14;
            fails(ARGUMENT, () -> x.isLeftRecursive(none));
            promise = 15;
            fails(ARGUMENT, () -> x.goesRound(none));
        }
    }

    private static void tables() {
        GrammarwrightHall x = of(STRONG);
        GrammarwrightHall m = of(MIDDLE);
        GrammarwrightHall w = of(WIDE);
        promise = 16;
        is(x.states('1'), 14);
        is(x.states('l'), 13);
        is(x.states('s'), 13);
        is(x.states('0'), 13);
        is(m.states('0'), 10);
        is(m.states('l'), 10);
        is(m.states('1'), 14);
        is(new GrammarwrightHall().states('0'), 2);
        // a name that never ends leaves no token behind those ahead of it, so the kind '1' has fewer items
        GrammarwrightHall dead = of("ABC", "Bb", "CC");
        is(dead.states('1'), 4);
        is(dead.states('0'), 5);
        is(dead.items('1', 0), 2);
        is(dead.items('0', 0), 3);
        is(of(FULL).states('1'), 200);
        fails(SUPPORT, () -> w.states('1'));
        fails(SUPPORT, () -> w.states('0'));
        w.start('F');
        is(w.states('1'), 2);

        promise = 17;
        is(x.items('1', 0), 5);
        is(x.items('1', 1), 4);
        is(x.items('1', 4), 2);
        is(x.items('l', 4), 4);
        is(x.items('s', 4), 2);
        is(of(EMPTY).items('1', 0), 1 + 2 + 2 * 2);
        is(of(EMPTY).items('0', 0), 5);

        promise = 18;
        is(x.leadsTo('1', 0, 'a'), 1);
        is(x.leadsTo('1', 0, 'b'), 2);
        is(x.leadsTo('1', 0, 'A'), 3);
        is(x.leadsTo('1', 1, 'c'), 4);
        is(x.leadsTo('1', 1, 'C'), 6);
        is(x.leadsTo('1', 2, 'c'), 7);
        is(x.leadsTo('l', 2, 'c'), 4);
        is(x.leadsTo('s', 2, 'c'), 4);
        is(x.leadsTo('1', 2, 'B'), 8);
        is(x.leadsTo('l', 2, 'B'), 7);
        is(x.leadsTo('0', 8, 'd'), 12);
        fails(ELEMENT, () -> x.leadsTo('1', 0, 'c'));
        fails(ELEMENT, () -> x.leadsTo('l', 12, 'F'));
        for (char none : new char[] {'f', 'G', '$', (char) 0}) {
            fails(ARGUMENT, () -> x.leadsTo('1', 0, none));
            fails(ARGUMENT, () -> w.leadsTo('1', 99, none));
        }

        promise = 19;
        is(x.does('1', 0, 'a'), 100);
        is(x.does('1', 0, 'c'), -1);
        is(x.does('1', 3, '$'), 101);
        is(x.does('1', 3, 'a'), -1);
        is(x.does('0', 3, '$'), 101);
        is(x.does('0', 3, 'a'), -1);
        is(x.does('1', 4, 'd'), 4);
        is(x.does('1', 4, 'e'), 5);
        is(x.does('1', 7, 'd'), 5);
        is(x.does('1', 7, 'e'), 4);
        is(x.does('l', 4, 'e'), 4);
        is(x.does('l', 4, '$'), -1);
        is(x.does('0', 4, '$'), 4);
        is(m.does('s', 4, 'a'), 100);
        is(m.does('s', 4, '$'), 4);
        is(m.does('s', 4, 'b'), -1);
        is(m.does('0', 4, 'b'), 4);
        is(of("AAa", "A").does('0', 0, '$'), 1);
        is(of("AA", "Aa").does('1', 2, '$'), 101);
        for (char none : NO_TOKENS) {
            if (none != '$') {
                fails(ARGUMENT, () -> x.does('1', 0, none));
                fails(ARGUMENT, () -> w.does('1', 999, none));
            }
        }

        promise = 20;
        is(x.doubts('1'), 0);
        is(x.doubts('l'), 2);
        is(x.doubts('s'), 2);
        is(x.doubts('0'), 6);
        is(m.doubts('0'), 1);
        is(m.doubts('s'), 1);
        is(m.doubts('l'), 0);
        is(m.doubts('1'), 0);
        is(of("Aa", "Aa").doubts('1'), 1);
        is(of("AA", "Aa").doubts('1'), 1);

        is(of("AAaA", "Ac").doubts('s'), 1);

        promise = 21;
        is(x.doubtAt('l', 0), 43);
        is(x.doubtAt('l', 1), 44);
        is(x.doubtAt('0', 0), 40);
        is(x.doubtAt('0', 5), 45);
        is(m.doubtAt('s', 0), 40);
        fails(INDEX, () -> x.doubtAt('1', 0));
        fails(INDEX, () -> x.doubtAt('l', 2));
        for (int far : FAR) {
            fails(INDEX, () -> x.doubtAt('l', far));
            promise = 17;
            fails(INDEX, () -> x.items('l', far));
            promise = 18;
            fails(INDEX, () -> x.leadsTo('l', far, 'a'));
            promise = 19;
            fails(INDEX, () -> x.does('l', far, '$'));
        }
        fails(INDEX, () -> x.items('l', 13));
        is(x.items('1', 13), 1);
        noKinds(x);
        manyStates();
    }

    private static void noKinds(GrammarwrightHall x) {
        for (char none : NO_KINDS) {
            promise = 16;
            fails(ARGUMENT, () -> x.states(none));
            promise = 17;
            fails(ARGUMENT, () -> x.items(none, -1));
            promise = 18;
            fails(ARGUMENT, () -> x.leadsTo(none, -1, 'a'));
            promise = 19;
            fails(ARGUMENT, () -> x.does(none, -1, 'a'));
            promise = 20;
            fails(ARGUMENT, () -> x.doubts(none));
            promise = 21;
            fails(ARGUMENT, () -> x.doubtAt(none, -1));
            promise = 26;
            fails(ARGUMENT, () -> x.parse(none));
        }
    }

    private static void manyStates() {
        GrammarwrightHall w = with("bcb", WIDE);
        w.start('F');
        w.rule('F');
        w.symbol(8, 'b');
        w.symbol(8, 'c');
        w.symbol(8, 'b');
        is(w.parse('1'), 'y');
        w.start('A');
        for (char kind : "0sl1".toCharArray()) {
            promise = 16;
            fails(SUPPORT, () -> w.states(kind));
            promise = 17;
            fails(SUPPORT, () -> w.items(kind, -1));
            promise = 18;
            fails(SUPPORT, () -> w.leadsTo(kind, -1, 'a'));
            promise = 19;
            fails(SUPPORT, () -> w.does(kind, -1, 'a'));
            promise = 20;
            fails(SUPPORT, () -> w.doubts(kind));
            promise = 21;
            fails(SUPPORT, () -> w.doubtAt(kind, -1));
            promise = 26;
            fails(SUPPORT, () -> w.parse(kind));
        }
        promise = 27;
        is(w.steps(), 4);
        promise = 28;
        is(w.reducedBy(0), 8);
        promise = 43;
        is(w.isSound(), true);
    }

    private static void text() {
        GrammarwrightHall x = of("AaA", "AbA", "AcA", "AdA", "AeA", "A");
        promise = 22;
        for (char none : NO_TOKENS) {
            fails(ARGUMENT, () -> x.type(none));
        }
        for (int i = 1; i <= 12; i++) {
            is(x.type((char) ('a' + i % 5)), i);
        }
        fails(STATE, () -> x.type('a'));
        fails(ARGUMENT, () -> x.type('f'));

        promise = 23;
        fails(INDEX, () -> x.put(13, 'f'));
        fails(STATE, () -> x.put(12, 'a'));
        fails(ARGUMENT, () -> x.put(12, 'f'));
        is(x.erase(), 12);
        for (int far : FAR) {
            fails(INDEX, () -> x.put(far, 'a'));
        }
        fails(INDEX, () -> x.put(1, 'a'));
        fails(ARGUMENT, () -> x.put(0, 'A'));
        is(x.put(0, 'a'), 1);
        is(x.put(1, 'c'), 2);
        is(x.put(1, 'b'), 3);
        is(x.put(0, 'e'), 4);

        promise = 24;
        for (int far : FAR) {
            fails(INDEX, () -> x.cut(far));
        }
        fails(INDEX, () -> x.cut(4));
        is(x.cut(2), 'b');
        is(x.cut(0), 'e');
        is(x.cut(1), 'c');
        is(x.cut(0), 'a');
        fails(INDEX, () -> x.cut(0));

        promise = 25;
        is(x.erase(), 0);
        x.type('a');
        x.type('b');
        is(x.erase(), 2);
        is(x.isWord(), true);
        is(x.itemsIn(0), 8);
        fails(INDEX, () -> x.itemsIn(1));
    }

    private static void parsing() {
        promise = 26;
        GrammarwrightHall x = with("bce", STRONG);
        is(x.parse('1'), 'y');
        promise = 27;
        is(x.steps(), 5);
        promise = 28;
        is(x.reducedBy(0), 4);
        is(x.reducedBy(1), 3);
        fails(INDEX, () -> x.reducedBy(2));
        for (int far : FAR) {
            fails(INDEX, () -> x.reducedBy(far));
        }
        promise = 26;
        is(x.parse('l'), 'y');
        write(x, "bcd");
        is(x.steps(), 5);
        is(x.parse('l'), 'n');
        is(x.steps(), 3);
        is(x.reducedBy(0), 4);
        fails(INDEX, () -> x.reducedBy(1));
        is(x.parse('1'), 'y');
        is(x.reducedBy(0), 5);
        x.rule('A');
        is(x.steps(), 5);
        is(x.parse('0'), 'n');
        is(new GrammarwrightHall().parse('s'), 'n');

        GrammarwrightHall over = with("b", "ABA", "Aa", "B");
        is(over.parse('0'), 'l');
        promise = 27;
        is(over.steps(), 400);
        promise = 28;
        is(over.reducedBy(399), 2);
        fails(INDEX, () -> over.reducedBy(400));
        promise = 26;
        is(over.parse('s'), 'n');
        is(over.steps(), 0);
        // with 400 steps there is no 401st, with one more there is
        GrammarwrightHall just = of(LONG);
        is(just.parse('1'), 'y');
        is(just.steps(), 400);
        is(just.reducedBy(399), 0);
        just.symbol(4, 'F');
        is(just.parse('1'), 'l');
        is(just.steps(), 400);
        is(just.isWord(), true);
        promise = 27;
        is(new GrammarwrightHall().steps(), 0);
        promise = 28;
        fails(INDEX, () -> new GrammarwrightHall().reducedBy(0));
    }

    private static void rows() {
        GrammarwrightHall x = with("cacbc", SUMS);
        promise = 29;
        is(x.isWord(), true);
        is(write(x, "cacb").isWord(), false);
        is(write(x, "").isWord(), false);
        is(with("", EMPTY).isWord(), false);
        is(with("", "AB", "B").isWord(), true);
        is(with("cba", "ABAa", "Ab", "B", "Bc").isWord(), true);
        is(with("aab", "AaAb", "A").isWord(), false);
        is(with("aabb", "AaAb", "A").isWord(), true);

        promise = 30;
        write(x, "cacbc");
        is(x.itemsIn(0), 4);
        is(x.itemsIn(1), 4);
        is(x.itemsIn(2), 4);
        fails(INDEX, () -> x.itemsIn(6));
        for (int far : FAR) {
            fails(INDEX, () -> x.itemsIn(far));
        }
        write(x, "ca");
        is(x.itemsIn(1), 4);
        write(x, "caab");
        is(x.itemsIn(2), 4);
        is(x.itemsIn(3), 0);
        is(x.itemsIn(4), 0);

        promise = 31;
        GrammarwrightHall k = with("cacbc", SUMS);
        is(k.kept(), 0);
        k.itemsIn(2);
        is(k.kept(), 3);
        k.itemsIn(0);
        is(k.kept(), 3);
        k.isWord();
        is(k.kept(), 6);
        k.type('a');
        is(k.kept(), 6);
        k.put(4, 'c');
        is(k.kept(), 5);
        k.put(6, 'c');
        is(k.kept(), 5);
        k.cut(2);
        is(k.kept(), 3);
        k.level(0, 1, 'l');
        is(k.kept(), 3);
        k.trees();
        k.repair();
        k.isSound();
        is(k.kept(), 3);
        fails(INDEX, () -> k.cut(9));
        fails(ARGUMENT, () -> k.rule('x'));
        is(k.kept(), 3);
        k.erase();
        is(k.kept(), 1);
        k.erase();
        is(k.kept(), 1);
        k.start('A');
        is(k.kept(), 0);
        k.isWord();
        is(k.kept(), 1);
        k.rule('F');
        is(k.kept(), 0);
        k.isWord();
        k.symbol(3, 'a');
        is(k.kept(), 0);

        promise = 32;
        GrammarwrightHall c = with("cacbc", SUMS);
        is(c.reckoned(), 0);
        c.itemsIn(2);
        is(c.reckoned(), 3);
        c.itemsIn(1);
        is(c.reckoned(), 3);
        c.isWord();
        is(c.reckoned(), 6);
        c.isSound();
        is(c.reckoned(), 6);
        c.put(0, 'e');
        c.isWord();
        is(c.reckoned(), 12);
        c.cut(5);
        c.isWord();
        is(c.reckoned(), 12);
        c.start('A');
        is(c.reckoned(), 12);
        c.itemsIn(0);
        is(c.reckoned(), 13);
    }

    private static void trees() {
        promise = 33;
        GrammarwrightHall x = with("cacac", SUMS);
        is(x.trees(), 2);
        is(with("cacacac", SUMS).trees(), 5);
        is(with("caca", SUMS).trees(), 0);
        is(with("aaaaaaaaaaaa", "AAA", "Aa").trees(), 58786);
        is(with("aaaaaaaaaaaa", "AAA", "AAA", "Aa").trees(), 1000000);
        is(with("", "ABB", "B", "B").trees(), 4);
        is(with("", "AA").trees(), 0);
        is(with("a", "AA", "Ba").trees(), 0);
        is(with("a", "Aa", "BB", "B").trees(), 1);
        is(with("a", "Aa", "ABa", "BB").trees(), 1);
        fails(SUPPORT, () -> with("a", "Aa", "ABC", "BB", "B").trees());
        fails(SUPPORT, () -> with("", "AA", "Aa").trees());
        is(with("ba", EMPTY).trees(), 1);
        is(with("a", "AB", "BC", "CD", "DE", "EF", "Fa").trees(), 1);
        is(with("a", "AF", "Ba", "CB", "DC", "ED", "FE").trees(), 1);

        promise = 34;
        is(x.treesLeft(), 2);
        x.level(0, 1, 'l');
        is(x.treesLeft(), 1);
        is(x.treeSpan(1), 3);
        x.level(0, 1, 'r');
        is(x.treesLeft(), 1);
        is(x.treeSpan(1), 1);
        x.level(0, 1, 'n');
        is(x.treesLeft(), 0);
        is(x.trees(), 2);
        x.level(0, 0, 'n');
        is(x.treesLeft(), 2);
        write(x, "cacbc");
        x.level(0, 1, 'l');
        x.level(1, 2, 'l');
        is(x.treesLeft(), 1);
        is(x.treeRule(0), 0);
        x.level(0, 2, 'l');
        x.level(1, 1, 'l');
        is(x.treesLeft(), 1);
        is(x.treeRule(0), 1);
        for (char side : "lrn".toCharArray()) {
            GrammarwrightHall one = with("c", "AB", "Bc");
            one.level(0, 1, side);
            is(one.treesLeft(), 1);
            one.level(1, 1, 'n');
            is(one.treesLeft(), 0);
            one.level(1, 2, 'n');
            is(one.treesLeft(), 1);
            one.level(0, 3, side);
            is(one.treesLeft(), 0);
            // a symbol in the middle is barred by a lower level alone
            GrammarwrightHall middle = with("dce", "AdAe", "Ac");
            middle.level(0, 4, side);
            middle.level(1, 4, 'n');
            is(middle.treesLeft(), 1);
            middle.level(1, 3, 'n');
            is(middle.treesLeft(), 0);
        }
        is(with("aaaaaaaaaaaa", "AAA", "AAA", "Aa").treesLeft(), 1000000);
        fails(SUPPORT, () -> with("", "AA", "Aa").treesLeft());

        leastTree();
    }

    private static void leastTree() {
        promise = 35;
        GrammarwrightHall x = with("cacac", SUMS);
        int[] rules = {0, 2, 0, 2, 2};
        int[] spans = {5, 1, 205, 203, 405};
        for (int i = 0; i < 5; i++) {
            is(x.treeRule(i), rules[i]);
            promise = 36;
            is(x.treeSpan(i), spans[i]);
            promise = 35;
        }
        for (int none : new int[] {5, -1, Integer.MIN_VALUE, Integer.MAX_VALUE}) {
            fails(ELEMENT, () -> x.treeRule(none));
            promise = 36;
            fails(ELEMENT, () -> x.treeSpan(none));
            promise = 35;
        }
        GrammarwrightHall y = with("bbb", "ABBB", "Bb", "B", "BbB");
        is(y.treeRule(0), 0);
        is(y.treeSpan(1), 0);
        is(y.treeRule(1), 2);
        is(y.treeSpan(2), 0);
        is(y.treeRule(3), 3);
        is(y.treeSpan(3), 3);
        fails(ELEMENT, () -> with("cc", SUMS).treeRule(0));
        fails(SUPPORT, () -> with("", "AA", "Aa").treeRule(-1));
        GrammarwrightHall barred = with("cacac", SUMS);
        barred.level(0, 1, 'n');
        fails(ELEMENT, () -> barred.treeRule(0));
        GrammarwrightHall big = of(LONG);
        is(big.trees(), 1);
        is(big.treeRule(399), 5);
        is(big.treeRule(398), 5);
        is(big.treeRule(394), 3);
        fails(ELEMENT, () -> big.treeRule(400));

        promise = 36;
        fails(ELEMENT, () -> with("cc", SUMS).treeSpan(0));
        fails(SUPPORT, () -> with("", "AA", "Aa").treeSpan(0));
        GrammarwrightHall far = with("bbbbbbbbbbbb", "AbA", "Ab");
        is(far.treeSpan(0), 12);
        is(far.treeSpan(11), 1112);
        is(far.treeRule(11), 1);
        fails(ELEMENT, () -> far.treeSpan(12));
    }

    private static void repairAndWords() {
        promise = 37;
        is(with("", SUMS).repair(), 1);
        is(with("c", SUMS).repair(), 0);
        is(with("cc", SUMS).repair(), 1);
        is(with("dd", SUMS).repair(), 2);
        is(with("ccccc", SUMS).repair(), 2);
        is(with("aaaa", "Abbb").repair(), 4);
        is(with("aabba", "AaAb", "A").repair(), 1);
        is(with("edcba", "A").repair(), 5);
        is(with("abcde", "Aacbde").repair(), 2);
        is(with("c", "AA", "AB", "BA", "Bd").repair(), 1);
        is(with("a", "CaA", "AB", "BC", "CD", "DE", "EF", "Fb", "Fa").repair(), 0);
        is(with("aa", "CaA", "AB", "BC", "CD", "DE", "EF", "Fb").repair(), 1);
        fails(ELEMENT, () -> new GrammarwrightHall().repair());
        fails(ELEMENT, () -> with("a", "AaA", "Ba").repair());

        promise = 38;
        GrammarwrightHall x = of("AaA", "Ab");
        is(x.words(0), 0);
        is(x.words(1), 1);
        is(x.words(4), 4);
        is(x.words(5), 5);
        for (int far : FAR) {
            fails(ARGUMENT, () -> x.words(far));
        }
        fails(ARGUMENT, () -> x.words(6));
        GrammarwrightHall all = of("AaA", "AbA", "AcA", "AdA", "AeA", "A");
        is(all.words(5), 3906);
        is(all.words(0), 1);
        is(all.words(2), 31);
        is(of("AAA", "A", "Aa", "Ae").words(5), 63);
        is(of("AB", "BA", "Aa", "Bb").words(5), 2);

        promise = 39;
        is(x.wordAt(0, 0), 'b');
        is(x.wordAt(4, 0), 'a');
        is(x.wordAt(4, 3), 'a');
        is(x.wordAt(4, 4), 'b');
        fails(INDEX, () -> x.wordAt(4, 5));
        fails(INDEX, () -> x.wordAt(5, 0));
        for (int far : FAR) {
            fails(INDEX, () -> x.wordAt(far, 0));
            fails(INDEX, () -> x.wordAt(0, far));
        }
        fails(INDEX, () -> all.wordAt(0, 0));
        is(all.wordAt(1, 0), 'a');
        is(all.wordAt(5, 0), 'e');
        is(all.wordAt(7, 0), 'a');
        is(all.wordAt(7, 1), 'b');
        is(all.wordAt(3905, 4), 'e');
        is(all.wordAt(3904, 4), 'd');

        promise = 40;
        is(x.allTokens(), 15L);
        is(all.allTokens(), 5L + 50 + 375 + 2500 + 15625);
        is(new GrammarwrightHall().allTokens(), 0L);

        promise = 41;
        is(x.wordShare(), 5f / 3906f);
        is(all.wordShare(), 1f);
        is(new GrammarwrightHall().wordShare(), 0f);
        x.start('B');
        is(x.wordShare(), 0f);
    }

    private static void soundness() {
        promise = 43;
        is(new GrammarwrightHall().isSound(), true);
        for (String text : new String[] {"", "c", "cac", "ca", "cacbcac", "ddddddd"}) {
            is(with(text, SUMS).isSound(), true);
            is(with(text, STRONG).isSound(), true);
            is(with(text, EMPTY).isSound(), true);
            is(with(text, "AA", "Ac", "ABB", "B").isSound(), true);
        }
        GrammarwrightHall x = with("bce", STRONG);
        x.parse('l');
        x.erase();
        x.isSound();
        is(x.steps(), 5);
        is(x.reducedBy(1), 3);
        is(of(LONG).isSound(), true);
        // a table without a doubt is over ahead of accepting this word, so it does not accept it
        GrammarwrightHall over = of(LONG);
        over.symbol(4, 'F');
        is(over.doubts('1'), 0);
        is(over.isSound(), false);
    }

    /** The example in README.md. */
    private static void example() {
        promise = 0;
        GrammarwrightHall hall = new GrammarwrightHall();
        int sum = hall.rule('A');
        hall.symbol(sum, 'A');
        hall.symbol(sum, 'a');
        hall.symbol(sum, 'A');
        hall.symbol(hall.rule('A'), 'c');
        hall.level(sum, 1, 'l');
        write(hall, "cacac");
        is(hall.isWord(), true);
        is(hall.trees(), 2);
        is(hall.treesLeft(), 1);
        is(hall.treeSpan(1), 3);
        is(hall.doubts('s'), 1);
        is(hall.parse('s'), 'y');
        is(hall.cut(4), 'c');
        is(hall.repair(), 1);
    }
}
