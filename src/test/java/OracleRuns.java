import java.math.BigInteger;
import java.util.ArrayList;
import java.util.Arrays;
import java.util.Collections;
import java.util.HashMap;
import java.util.HashSet;
import java.util.LinkedHashSet;
import java.util.List;
import java.util.Map;
import java.util.NoSuchElementException;
import java.util.Set;
import java.util.TreeSet;

/**
 * Long runs of calls with made-up grammars, each answer held against a second, slow form of the document that works on
 * plain sets of strings. Arguments: how many runs (default 400), the first seed (default 1).
 */
public final class OracleRuns {
    private static long state;
    private static int wrong;
    private static long calls;
    private static final Map<String, Integer> seen = new HashMap<>();

    private static int roll(int bound) {
        state = state * 6364136223846793005L + 1442695040888963407L;
        return (int) ((state >>> 33) % bound);
    }

    public static void main(String[] args) {
        int runs = args.length > 0 ? Integer.parseInt(args[0]) : 400;
        long seed = args.length > 1 ? Long.parseLong(args[1]) : 1;
        for (int which = 0; which < WIDE.length && wrong == 0; which++) {
            wideRun(which);
        }
        for (int run = 0; run < runs && wrong == 0; run++) {
            state = (seed + run) * 1000003L + 17;
            oneRun(seed + run);
        }
        for (String must : new String[] {"treeRule", "doubtAt", "leadsTo", "repair", "wordAt", "reducedBy"}) {
            if (runs >= 300 && seen.getOrDefault(must, 0) < 50) {
                wrong++;
                System.out.println(must + " was answered too seldom");
            }
        }
        if (args.length > 2) {
            System.out.println(seen);
        }
        System.out.println(runs + " runs, " + calls + " calls, " + wrong + " wrong");
        if (wrong > 0) {
            System.exit(1);
        }
    }

    /** Grammars of some 200 states, or of far more states of the kind '0' than of the kind '1'. */
    private static final String[][] WIDE = {
        {"AdBda", "BA", "Aa", "BAcBaA", "BdBbAB", "AecB", "A"},
        {"AbbAB", "Bcb", "B", "B", "BAadc", "BecbAd", "BBAd", "BbBBb"},
        {"ABC", "BadddD", "DddddB", "FadBFE", "FFdDDB", "EdddaB", "EddDEd", "BdadDD", "EaddFB"},
        {"ABdB", "AcCa", "BbD", "CeE", "DaF", "EbF", "FcA", "Fd", "Fe", "DDb", "EaE", "F", "Bb", "Cc", "Dd", "EE"},
        {"ABC", "BcB", "EcccD", "EaB", "FcccE", "EccccD", "BaD", "DccF", "FacE"},
        {"ABC", "DabbDE", "DbbabD", "DbabFa", "EaDaFb", "EbbaEb", "DabbaF", "FbabbB", "Bb", "BabbbE", "BbbbbE",
            "DbbbbD", "FbbabB", "EbbbFb", "Bb", "FbbbbB"},
        // the start itself never ends, and stands behind the name that has so many states
        {"AABA", "CabbbF", "FbbabB", "EbbbbF", "BabbbD", "DbbbBb", "BbbbbD", "CbbabF", "CbbbCE", "DbbbaC", "FabbbB",
            "FbbbbE", "BbbbaF"},
        // just as many states as there is room for at first, and a state more, and so on
        {"ABC", "BabaaF", "FabaDE", "FBaabD", "FbaFaB", "DabaaF", "EbaaBE", "FababD", "Daaba", "EabEbD", "EaabBa",
            "FBabaE", "DbaabF", "BaabaB", "BbaaED", "Bab"},
        {"ABC", "BabaaD", "FabaDE", "Fbaa", "Fb", "Da", "EbaaBE", "FababD", "DaabaF", "EabEbD", "EaabBa", "FaabaE",
            "DbaabF", "BaabaB", "Bba", "BababF"},
        {"ABC", "BabaaD", "FabaDE", "FbaabD", "FbabaB", "DabaaF", "EbaaBE", "FababD", "DaabaF", "EabEbD", "EaabBa",
            "FBabaE", "DbaabF", "BaabaB", "BbaaED", "Baba"},
        {"ABC", "BabaaD", "FabaDE", "FbaabD", "FDabaB", "DabaaF", "EbaaBE", "FababD", "DaabaF", "EabE", "EaabBa",
            "FaabaE", "Dba", "BaabaB", "BbaaED", "BababF"},
        {"ABC", "BabaaD", "FabaDE", "FbaabD", "FbabaB", "DabaaF", "EbaaBE", "BababD", "DaabaF", "EabEFD", "EaabBa",
            "FaabaE", "DbBabF", "BaabaB", "BbaaED", "BababF"},
        {"ABC", "DabbDE", "DbbabD", "DbabFa", "EaDaFb", "EbbaEb", "DabbaF", "FbabbB", "BbabbE", "BabbbE", "BbbbbE",
            "DbbbbD", "FbbabB", "EbbbFb", "BbbaBB", "FbbbbB"},
    };

    private static void wideRun(int which) {
        GrammarwrightHall x = new GrammarwrightHall();
        Oracle o = new Oracle();
        List<String> log = new ArrayList<>();
        for (int r = 0; r < WIDE[which].length; r++) {
            both(x, o, log, -which, "rule", WIDE[which][r].charAt(0), 0, 0);
            for (char part : WIDE[which][r].substring(1).toCharArray()) {
                both(x, o, log, -which, "symbol", r, part, 0);
            }
        }
        for (char kind : "0sl1".toCharArray()) {
            both(x, o, log, -which, "states", kind, 0, 0);
            both(x, o, log, -which, "doubts", kind, 0, 0);
        }
        sweepPlain(x, o, log, -which);
        for (int i = 0; i < 20; i++) {
            sweepTable(x, o, log, -which);
            both(x, o, log, -which, "leadsTo", kind(), roll(400), "abcdABCD".charAt(roll(8)));
            both(x, o, log, -which, "doubtAt", kind(), roll(400), 0);
            both(x, o, log, -which, "isSound", 0, 0, 0);
            typeWord(x, o, log, -which);
            both(x, o, log, -which, "parse", kind(), 0, 0);
            both(x, o, log, -which, "repair", 0, 0, 0);
        }
    }

    /** Asks all that there is of the kinds '0' and 's', or a part, where there are very many states. */
    private static void sweepPlain(GrammarwrightHall x, Oracle o, List<String> log, long seed) {
        int size = o.sizeOf('0');
        int step = 1 + size / 2000;
        for (int state = 0; state < size + step; state += step) {
            int at = Math.min(state, size);
            for (int kind : "0s".toCharArray()) {
                both(x, o, log, seed, "items", kind, at, 0);
                both(x, o, log, seed, "doubtAt", kind, at, 0);
                for (char sign : "abcde$".toCharArray()) {
                    both(x, o, log, seed, "does", kind, at, sign);
                }
                for (char sign : "abcdeABCDEF".toCharArray()) {
                    both(x, o, log, seed, "leadsTo", kind, at, sign);
                }
            }
        }
    }

    private static void oneRun(long seed) {
        GrammarwrightHall x = new GrammarwrightHall();
        Oracle o = new Oracle();
        List<String> log = new ArrayList<>();
        int shape = roll(8);
        if (shape >= 6) {
            sums(x, o, log, seed);
            return;
        }
        int names = 1 + roll(shape == 5 ? 6 : 4);
        int tokens = 1 + roll(3);
        int most = 2 + roll(shape == 3 ? 14 : 6);
        for (int r = 0; r < most; r++) {
            char left = r < names ? (char) ('A' + r) : (char) ('A' + roll(names));
            both(x, o, log, seed, "rule", left, 0, 0);
            int parts = shape == 1 ? 1 + roll(3) : shape == 2 ? roll(2) : shape == 4 ? roll(6) : roll(4);
            for (int p = 0; p < parts; p++) {
                both(x, o, log, seed, "symbol", r, part(names, tokens, shape), 0);
            }
        }
        for (int i = 0; i < 110 && wrong == 0; i++) {
            anyCall(x, o, log, seed, names, tokens, shape);
        }
    }

    /** Grammars of sums and signs, of which texts have many trees. */
    private static void sums(GrammarwrightHall x, Oracle o, List<String> log, long seed) {
        String[] rows = {"c", "AaA", "AbA", "aA", "Ab", "A", "", "BaA", "AaB", "cBc", "AA", "BbB", "BA", "C", "CBC", "AcA"};
        int most = 2 + roll(7);
        for (int r = 0; r < most; r++) {
            both(x, o, log, seed, "rule", r == 0 || roll(4) > 0 ? 'A' : 'B' + roll(2), 0, 0);
            String row = r == 0 ? "c" : rows[roll(rows.length)];
            for (char part : row.toCharArray()) {
                both(x, o, log, seed, "symbol", r, part, 0);
            }
            if (roll(3) > 0) {
                both(x, o, log, seed, "level", r, roll(4), "lrn".charAt(roll(3)));
            }
        }
        for (int i = 0; i < 30 && wrong == 0; i++) {
            if (roll(3) > 0) {
                typeWord(x, o, log, seed);
            }
            both(x, o, log, seed, "level", roll(most), roll(4), "lrn".charAt(roll(3)));
            both(x, o, log, seed, "trees", 0, 0, 0);
            both(x, o, log, seed, "treesLeft", 0, 0, 0);
            sweepTree(x, o, log, seed);
            anyCall(x, o, log, seed, 3, 3, 0);
        }
    }

    private static void sweepTree(GrammarwrightHall x, Oracle o, List<String> log, long seed) {
        boolean more = true;
        for (int index = 0; more && index < 60 && wrong == 0; index++) {
            both(x, o, log, seed, "treeRule", index, 0, 0);
            more = !log.get(log.size() - 1).contains("throws");
            both(x, o, log, seed, "treeSpan", index, 0, 0);
        }
    }

    private static void sweepTable(GrammarwrightHall x, Oracle o, List<String> log, long seed) {
        int kind = kind();
        boolean more = true;
        for (int state = 0; more && state < 30 && wrong == 0; state++) {
            both(x, o, log, seed, "items", kind, state, 0);
            more = !log.get(log.size() - 1).contains("throws");
            for (char sign : "abcde$".toCharArray()) {
                both(x, o, log, seed, "does", kind, state, sign);
            }
            for (char sign : "abcdeABCDEF".toCharArray()) {
                both(x, o, log, seed, "leadsTo", kind, state, sign);
            }
            both(x, o, log, seed, "doubtAt", kind, state, 0);
        }
    }

    private static int part(int names, int tokens, int shape) {
        int outOfTen = shape == 2 ? 6 : shape == 5 ? 4 : 5;
        return roll(10) < outOfTen ? 'A' + roll(names + (roll(30) == 0 ? 1 : 0)) : 'a' + roll(tokens);
    }

    private static int token(int tokens) {
        return roll(40) == 0 ? "fA$`@".charAt(roll(5)) : 'a' + roll(tokens);
    }

    private static int name(int names) {
        return roll(40) == 0 ? "Ga@[$".charAt(roll(5)) : 'A' + roll(Math.min(6, names + 1));
    }

    private static int kind() {
        return roll(40) == 0 ? "2LS $".charAt(roll(5)) : "0sl1".charAt(roll(4));
    }

    private static void anyCall(GrammarwrightHall x, Oracle o, List<String> log, long seed, int names, int tokens,
            int shape) {
        int n = o.text.length();
        int k = roll(100);
        if (k < 8) {
            both(x, o, log, seed, "type", token(tokens), 0, 0);
        } else if (k < 14) {
            typeWord(x, o, log, seed);
        } else if (k < 17) {
            both(x, o, log, seed, "put", roll(n + 3) - 1, token(tokens), 0);
        } else if (k < 21) {
            both(x, o, log, seed, "cut", roll(n + 3) - 1, 0, 0);
        } else if (k < 22) {
            both(x, o, log, seed, "erase", 0, 0, 0);
        } else if (k < 26) {
            both(x, o, log, seed, "level", roll(o.left.size() + 2) - 1, roll(20) == 0 ? roll(14) - 2 : roll(4),
                    roll(30) == 0 ? 'x' : "lrn".charAt(roll(3)));
        } else if (k < 27) {
            both(x, o, log, seed, "start", name(names), 0, 0);
        } else if (k < 28) {
            both(x, o, log, seed, "rule", name(names), 0, 0);
        } else if (k < 29) {
            both(x, o, log, seed, "symbol", roll(o.left.size() + 2) - 1,
                    roll(20) == 0 ? 'G' : part(names, tokens, shape), 0);
        } else if (k < 41) {
            String[] asked = {"canBeEmpty", "first", "behind", "isReached", "shortest", "isLeftRecursive", "goesRound"};
            String look = asked[roll(7)];
            for (char name = 'A'; name < 'G'; name++) {
                both(x, o, log, seed, look, name, 0, 0);
            }
            both(x, o, log, seed, look, name(names), 0, 0);
        } else if (k < 44) {
            String[] asked = {"rules", "length", "symbolAt", "meanLength", "steps", "kept", "reckoned"};
            both(x, o, log, seed, asked[roll(7)], roll(o.left.size() + 2) - 1, roll(7) - 1, 0);
        } else if (k < 45) {
            sweepTable(x, o, log, seed);
        } else if (k < 46) {
            sweepTree(x, o, log, seed);
        } else if (k < 60) {
            tableCall(x, o, log, seed);
        } else if (k < 65) {
            both(x, o, log, seed, "parse", kind(), 0, 0);
            both(x, o, log, seed, "steps", 0, 0, 0);
            both(x, o, log, seed, "reducedBy", roll(6) - 1, 0, 0);
            both(x, o, log, seed, "reducedBy", o.used.size() - roll(2), 0, 0);
        } else if (k < 73) {
            both(x, o, log, seed, "kept", 0, 0, 0);
            both(x, o, log, seed, roll(3) == 0 ? "isWord" : "itemsIn", roll(n + 3) - 1, 0, 0);
            both(x, o, log, seed, "reckoned", 0, 0, 0);
        } else if (k < 85) {
            String[] asked = {"trees", "treesLeft", "treeRule", "treeSpan"};
            both(x, o, log, seed, asked[roll(4)], roll(12) - 1, 0, 0);
        } else if (k < 90) {
            both(x, o, log, seed, "repair", 0, 0, 0);
        } else if (k < 97) {
            String[] asked = {"words", "wordAt", "allTokens", "wordShare", "wordAt"};
            int which = roll(5);
            both(x, o, log, seed, asked[which], which == 0 ? roll(8) - 1 : roll(o.wordsByLength().size() + 3) - 1,
                    roll(7) - 1, 0);
        } else {
            both(x, o, log, seed, "isSound", 0, 0, 0);
        }
    }

    private static void tableCall(GrammarwrightHall x, Oracle o, List<String> log, long seed) {
        String[] asked = {"states", "items", "leadsTo", "does", "doubts", "doubtAt", "leadsTo", "does", "items"};
        String call = asked[roll(9)];
        int at = call.equals("doubtAt") ? roll(8) - 1 : roll(16) - 1;
        int sign = call.equals("does") ? "abcde$abc$xA".charAt(roll(12)) : "abcdeABCDEFabcABCx$".charAt(roll(19));
        both(x, o, log, seed, call, kind(), at, sign);
    }

    /** Puts a word of the language in the place of the text, so that not all texts are none. */
    private static void typeWord(GrammarwrightHall x, Oracle o, List<String> log, long seed) {
        List<String> words = o.wordsByLength();
        both(x, o, log, seed, "erase", 0, 0, 0);
        int twice = 1 + roll(2);
        for (int t = 0; t < twice && !words.isEmpty(); t++) {
            String word = words.get(roll(words.size()));
            for (int i = 0; i < word.length(); i++) {
                both(x, o, log, seed, "type", word.charAt(i), 0, 0);
            }
        }
    }

    private static void both(GrammarwrightHall x, Oracle o, List<String> log, long seed, String call, int a, int b,
            int c) {
        if (wrong > 0) {
            return;
        }
        calls++;
        String due = answer(() -> o.call(call, a, b, c));
        String got = answer(() -> real(x, call, a, b, c));
        log.add(call + "(" + show(a) + ", " + show(b) + ", " + show(c) + ") = " + got);
        if (!due.startsWith("throws")) {
            seen.merge(call, 1, Integer::sum);
        }
        if (!due.equals(got)) {
            wrong++;
            for (String line : log) {
                System.out.println("  " + line);
            }
            System.out.println("seed " + seed + ", shown above: due is " + due);
        }
    }

    private static String show(int a) {
        return a >= 36 && a < 127 ? "'" + (char) a + "'" : "" + a;
    }

    private interface Asked {
        Object ask();
    }

    private static String answer(Asked asked) {
        try {
            return String.valueOf(asked.ask());
        } catch (RuntimeException e) {
            return "throws " + e.getClass().getSimpleName();
        }
    }

    private static Object real(GrammarwrightHall x, String call, int a, int b, int c) {
        switch (call) {
            case "rule": return x.rule((char) a);
            case "symbol": return x.symbol(a, (char) b);
            case "level": return x.level(a, b, (char) c);
            case "start": return x.start((char) a);
            case "rules": return x.rules();
            case "length": return x.length(a);
            case "symbolAt": return x.symbolAt(a, b);
            case "canBeEmpty": return x.canBeEmpty((char) a);
            case "first": return x.first((char) a);
            case "behind": return x.behind((char) a);
            case "isReached": return x.isReached((char) a);
            case "shortest": return x.shortest((char) a);
            case "isLeftRecursive": return x.isLeftRecursive((char) a);
            case "goesRound": return x.goesRound((char) a);
            case "states": return x.states((char) a);
            case "items": return x.items((char) a, b);
            case "leadsTo": return x.leadsTo((char) a, b, (char) c);
            case "does": return x.does((char) a, b, (char) c);
            case "doubts": return x.doubts((char) a);
            case "doubtAt": return x.doubtAt((char) a, b);
            case "type": return x.type((char) a);
            case "put": return x.put(a, (char) b);
            case "cut": return x.cut(a);
            case "erase": return x.erase();
            case "parse": return x.parse((char) a);
            case "steps": return x.steps();
            case "reducedBy": return x.reducedBy(a);
            case "isWord": return x.isWord();
            case "itemsIn": return x.itemsIn(a);
            case "kept": return x.kept();
            case "reckoned": return x.reckoned();
            case "trees": return x.trees();
            case "treesLeft": return x.treesLeft();
            case "treeRule": return x.treeRule(a);
            case "treeSpan": return x.treeSpan(a);
            case "repair": return x.repair();
            case "words": return x.words(a);
            case "wordAt": return x.wordAt(a, b);
            case "allTokens": return x.allTokens();
            case "wordShare": return x.wordShare();
            case "meanLength": return x.meanLength();
            case "isSound": return x.isSound();
            default: throw new IllegalArgumentException(call);
        }
    }

    /** A tree, with all below it. */
    private record Node(int rule, int begin, int end, List<Integer> ends, List<Node> below) { }

    private static final class TooBig extends RuntimeException {
        private static final long serialVersionUID = 1;
    }

    /** The document once more. */
    private static final class Oracle {
        final List<Character> left = new ArrayList<>();
        final List<String> right = new ArrayList<>();
        final List<Integer> level = new ArrayList<>();
        final List<Character> side = new ArrayList<>();
        char start = 'A';
        String text = "";
        int kept;
        int reckoned;
        int steps;
        List<Integer> used = new ArrayList<>();
        private final Map<String, Object> memo = new HashMap<>();

        Object call(String call, int a, int b, int c) {
            switch (call) {
                case "rule": return rule((char) a);
                case "symbol": return symbol(a, (char) b);
                case "level": return setLevel(a, b, (char) c);
                case "start": return setStart((char) a);
                case "rules": return left.size();
                case "length": checkRule(a); return right.get(a).length();
                case "symbolAt": checkRule(a); check(b >= 0 && b < right.get(a).length()); return right.get(a).charAt(b);
                case "canBeEmpty": checkName((char) a); return empty((char) a);
                case "first": checkName((char) a); return bits(first("" + (char) a));
                case "behind": checkName((char) a); return bits(behind((char) a));
                case "isReached": checkName((char) a); return reached().contains((char) a);
                case "shortest": return shortest((char) a);
                case "isLeftRecursive": checkName((char) a); return chain((char) a, true);
                case "goesRound": checkName((char) a); return chain((char) a, false);
                case "states": return table((char) a).sets.size();
                case "items": return items((char) a, b);
                case "leadsTo": return leadsTo((char) a, b, (char) c);
                case "does": return does((char) a, b, (char) c);
                case "doubts": return doubtful((char) a).size();
                case "doubtAt": List<Integer> cells = doubtful((char) a); check(b >= 0 && b < cells.size()); return cells.get(b);
                case "type": return put(text.length(), (char) a, false);
                case "put": return put(a, (char) b, true);
                case "cut": return cut(a);
                case "erase": int was = text.length(); text = ""; keep(0); return was;
                case "parse": return parse((char) a);
                case "steps": return steps;
                case "reducedBy": check(a >= 0 && a < used.size()); return used.get(a);
                case "isWord": askRows(text.length()); return word(text);
                case "itemsIn": check(a >= 0 && a <= text.length()); askRows(a); return rows(text).get(a).size();
                case "kept": return kept;
                case "reckoned": return reckoned;
                case "trees": return trees(false);
                case "treesLeft": return trees(true);
                case "treeRule": return node(a, false);
                case "treeSpan": return node(a, true);
                case "repair": return repair();
                case "words": return words(a);
                case "wordAt": return wordAt(a, b);
                case "allTokens": return wordsByLength().stream().mapToLong(String::length).sum();
                case "wordShare": return (float) wordsByLength().size() / (float) 3906;
                case "meanLength": return meanLength();
                case "isSound": return sound();
                default: throw new IllegalStateException(call);
            }
        }

        private void check(boolean fine) {
            if (!fine) {
                throw new IndexOutOfBoundsException();
            }
        }

        private void checkRule(int rule) {
            check(rule >= 0 && rule < left.size());
        }

        private void checkArgument(boolean fine) {
            if (!fine) {
                throw new IllegalArgumentException();
            }
        }

        private void checkName(char name) {
            checkArgument("ABCDEF".indexOf(name) >= 0);
        }

        private void checkKind(char kind) {
            checkArgument("0sl1".indexOf(kind) >= 0);
        }

        private Object rule(char name) {
            checkName(name);
            if (left.size() == 16) {
                throw new IllegalStateException();
            }
            changed();
            left.add(name);
            right.add("");
            level.add(0);
            side.add('n');
            return left.size() - 1;
        }

        private Object symbol(int rule, char symbol) {
            checkRule(rule);
            checkArgument("abcdeABCDEF".indexOf(symbol) >= 0);
            if (right.get(rule).length() == 5) {
                throw new IllegalStateException();
            }
            changed();
            right.set(rule, right.get(rule) + symbol);
            return right.get(rule).length();
        }

        private Object setLevel(int rule, int to, char toSide) {
            checkRule(rule);
            checkArgument(to >= 0 && to <= 9 && "lrn".indexOf(toSide) >= 0);
            memo.keySet().removeIf(key -> key.startsWith("trees"));
            side.set(rule, toSide);
            return level.set(rule, to);
        }

        private Object setStart(char name) {
            checkName(name);
            changed();
            char was = start;
            start = name;
            return was;
        }

        private void changed() {
            memo.clear();
            kept = 0;
        }

        private Object put(int place, char token, boolean checked) {
            check(place >= 0 && place <= text.length());
            checkArgument("abcde".indexOf(token) >= 0);
            if (text.length() == 12) {
                throw new IllegalStateException();
            }
            text = text.substring(0, place) + token + text.substring(place);
            keep(place);
            return text.length();
        }

        private Object cut(int place) {
            check(place >= 0 && place < text.length());
            char token = text.charAt(place);
            text = text.substring(0, place) + text.substring(place + 1);
            keep(place);
            return token;
        }

        private void keep(int place) {
            kept = Math.min(kept, place + 1);
        }

        private void askRows(int row) {
            reckoned += Math.max(0, row + 1 - kept);
            kept = Math.max(kept, row + 1);
        }

        // ---- looks ----

        private boolean isName(char symbol) {
            return symbol >= 'A';
        }

        private boolean isToken(char symbol) {
            return symbol >= 'a';
        }

        private boolean empty(char name) {
            return emptyNames().contains(name);
        }

        private boolean emptyRow(String row) {
            for (char symbol : row.toCharArray()) {
                if (!emptyNames().contains(symbol)) {
                    return false;
                }
            }
            return true;
        }

        @SuppressWarnings("unchecked")
        private Set<Character> emptyNames() {
            Set<Character> names = (Set<Character>) memo.get("empty");
            if (names == null) {
                names = new TreeSet<>();
                for (boolean grown = true; grown;) {
                    grown = false;
                    for (int r = 0; r < left.size(); r++) {
                        boolean all = true;
                        for (char symbol : right.get(r).toCharArray()) {
                            all &= names.contains(symbol);
                        }
                        grown |= all && names.add(left.get(r));
                    }
                }
                memo.put("empty", names);
            }
            return names;
        }

        /** The tokens with which what a row makes can begin, by going from symbol to symbol. */
        private Set<Character> first(String row) {
            Set<Character> tokens = new TreeSet<>();
            Set<Character> gone = new HashSet<>();
            List<String> open = new ArrayList<>(List.of(row));
            while (!open.isEmpty()) {
                String next = open.remove(open.size() - 1);
                for (char symbol : next.toCharArray()) {
                    if (isToken(symbol)) {
                        tokens.add(symbol);
                        break;
                    }
                    if (gone.add(symbol)) {
                        for (int r = 0; r < left.size(); r++) {
                            if (left.get(r) == symbol) {
                                open.add(right.get(r));
                            }
                        }
                    }
                    if (!empty(symbol)) {
                        break;
                    }
                }
            }
            return tokens;
        }

        private Set<Character> behind(char name) {
            Set<Character> tokens = new TreeSet<>();
            Set<Character> gone = new HashSet<>(List.of(name));
            List<Character> open = new ArrayList<>(List.of(name));
            while (!open.isEmpty()) {
                char next = open.remove(open.size() - 1);
                if (next == start) {
                    tokens.add('$');
                }
                for (int r = 0; r < left.size(); r++) {
                    for (int p = 0; p < right.get(r).length(); p++) {
                        if (right.get(r).charAt(p) == next) {
                            String tail = right.get(r).substring(p + 1);
                            tokens.addAll(first(tail));
                            if (emptyRow(tail) && gone.add(left.get(r))) {
                                open.add(left.get(r));
                            }
                        }
                    }
                }
            }
            return tokens;
        }

        private static int bits(Set<Character> tokens) {
            int sum = 0;
            for (char token : tokens) {
                sum += token == '$' ? 32 : 1 << token - 'a';
            }
            return sum;
        }

        private Set<Character> reached() {
            Set<Character> names = new TreeSet<>(List.of(start));
            for (boolean grown = true; grown;) {
                grown = false;
                for (int r = 0; r < left.size(); r++) {
                    if (names.contains(left.get(r))) {
                        for (char symbol : right.get(r).toCharArray()) {
                            grown |= !isToken(symbol) && names.add(symbol);
                        }
                    }
                }
            }
            return names;
        }

        private Map<Character, Integer> lengths() {
            Map<Character, Integer> known = new HashMap<>();
            for (boolean sunk = true; sunk;) {
                sunk = false;
                for (int r = 0; r < left.size(); r++) {
                    int sum = 0;
                    for (char symbol : right.get(r).toCharArray()) {
                        Integer one = isToken(symbol) ? (Integer) 1 : known.get(symbol);
                        sum = one == null || sum < 0 ? -1 : sum + one;
                    }
                    if (sum >= 0 && sum < known.getOrDefault(left.get(r), 1 << 30)) {
                        known.put(left.get(r), sum);
                        sunk = true;
                    }
                }
            }
            return known;
        }

        private Object shortest(char name) {
            checkName(name);
            Integer length = lengths().get(name);
            if (length == null) {
                throw new NoSuchElementException();
            }
            return length;
        }

        private boolean chain(char name, boolean leftward) {
            Set<Character> gone = new HashSet<>();
            List<Character> open = new ArrayList<>(List.of(name));
            while (!open.isEmpty()) {
                char next = open.remove(0);
                for (int r = 0; r < left.size(); r++) {
                    for (int p = 0; left.get(r) == next && p < right.get(r).length(); p++) {
                        char symbol = right.get(r).charAt(p);
                        boolean beside = emptyRow(right.get(r).substring(0, p))
                                && (leftward || emptyRow(right.get(r).substring(p + 1)));
                        if (!isToken(symbol) && beside && gone.add(symbol)) {
                            open.add(symbol);
                        }
                    }
                }
            }
            return gone.contains(name);
        }

        private boolean liveRound() {
            for (char name : reached()) {
                if (lengths().containsKey(name) && chain(name, false)) {
                    return true;
                }
            }
            return false;
        }

        // ---- tables; an item is "rule.dot" or "rule.dot.token", the one more rule has the number 99 ----

        private final class Table {
            final List<Set<String>> sets = new ArrayList<>();
            final List<Map<Character, Integer>> leads = new ArrayList<>();
        }

        private String rightOf(int rule) {
            return rule == 99 ? "" + start : right.get(rule);
        }

        private Set<String> close(Set<String> kernel, boolean exact) {
            Set<String> all = new TreeSet<>(kernel);
            List<String> open = new ArrayList<>(kernel);
            while (!open.isEmpty()) {
                String[] item = open.remove(open.size() - 1).split("\\.");
                String row = rightOf(Integer.parseInt(item[0]));
                int dot = Integer.parseInt(item[1]);
                if (dot == row.length() || isToken(row.charAt(dot))) {
                    continue;
                }
                Set<Character> after = new TreeSet<>();
                if (exact) {
                    after.addAll(first(row.substring(dot + 1)));
                    if (emptyRow(row.substring(dot + 1))) {
                        after.add(item[2].charAt(0));
                    }
                } else {
                    after.add(' ');
                }
                for (int r = 0; r < left.size(); r++) {
                    for (char token : after) {
                        String next = r + ".0" + (exact ? "." + token : "");
                        if (left.get(r) == row.charAt(dot) && all.add(next)) {
                            open.add(next);
                        }
                    }
                }
            }
            return all;
        }

        private Table make(boolean exact) {
            Table table = new Table();
            Map<Set<String>, Integer> numbers = new HashMap<>();
            Map<Set<String>, Integer> known = new HashMap<>();
            table.sets.add(close(Set.of(exact ? "99.0.$" : "99.0"), exact));
            numbers.put(table.sets.get(0), 0);
            for (int s = 0; s < table.sets.size(); s++) {
                Map<Character, Integer> leads = new HashMap<>();
                table.leads.add(leads);
                for (char symbol : "abcdeABCDEF".toCharArray()) {
                    Set<String> kernel = new TreeSet<>();
                    for (String text : table.sets.get(s)) {
                        String[] item = text.split("\\.");
                        String row = rightOf(Integer.parseInt(item[0]));
                        int dot = Integer.parseInt(item[1]);
                        if (dot < row.length() && row.charAt(dot) == symbol) {
                            kernel.add(item[0] + "." + (dot + 1) + (exact ? "." + item[2] : ""));
                        }
                    }
                    if (!kernel.isEmpty()) {
                        Integer next = known.get(kernel);
                        if (next == null) {
                            Set<String> closed = close(kernel, exact);
                            next = numbers.get(closed);
                            if (next == null) {
                                next = table.sets.size();
                                table.sets.add(closed);
                                numbers.put(closed, next);
                                if (exact && next == 200) {
                                    throw new UnsupportedOperationException();
                                }
                            }
                            known.put(kernel, next);
                        }
                        leads.put(symbol, next);
                    }
                }
            }
            return table;
        }

        private static Set<String> core(Set<String> items) {
            Set<String> core = new TreeSet<>();
            for (String item : items) {
                core.add(item.substring(0, item.lastIndexOf('.')));
            }
            return core;
        }

        private Table merge(Table exact) {
            List<Set<String>> cores = new ArrayList<>();
            List<Integer> numbers = new ArrayList<>();
            Table table = new Table();
            for (Set<String> items : exact.sets) {
                Set<String> core = core(items);
                int number = cores.indexOf(core);
                if (number < 0) {
                    number = cores.size();
                    cores.add(core);
                    table.sets.add(new TreeSet<>());
                    table.leads.add(new HashMap<>());
                }
                table.sets.get(number).addAll(items);
                numbers.add(number);
            }
            for (int s = 0; s < exact.sets.size(); s++) {
                for (Map.Entry<Character, Integer> way : exact.leads.get(s).entrySet()) {
                    Integer old = table.leads.get(numbers.get(s)).put(way.getKey(), numbers.get(way.getValue()));
                    if (old != null && !old.equals(numbers.get(way.getValue()))) {
                        throw new IllegalStateException("merged states lead to unlike ones");
                    }
                }
            }
            return table;
        }

        private Table table(char kind) {
            checkKind(kind);
            if (memo.containsKey("over")) {
                throw new UnsupportedOperationException();
            }
            Table exact = (Table) memo.get("table1");
            if (exact == null) {
                try {
                    exact = make(true);
                } catch (UnsupportedOperationException e) {
                    memo.put("over", e);
                    throw e;
                }
                memo.put("table1", exact);
                memo.put("tablel", merge(exact));
                memo.put("table0", make(false));
                memo.put("tables", memo.get("table0"));
            }
            return (Table) memo.get("table" + kind);
        }

        private Object items(char kind, int state) {
            Table table = table(kind);
            check(state >= 0 && state < table.sets.size());
            return table.sets.get(state).size();
        }

        private Object leadsTo(char kind, int state, char symbol) {
            checkKind(kind);
            checkArgument("abcdeABCDEF".indexOf(symbol) >= 0);
            Table table = table(kind);
            check(state >= 0 && state < table.sets.size());
            Integer next = table.leads.get(state).get(symbol);
            if (next == null) {
                throw new NoSuchElementException();
            }
            return next;
        }

        private Object does(char kind, int state, char token) {
            checkKind(kind);
            checkArgument("abcde$".indexOf(token) >= 0);
            check(state >= 0 && state < table(kind).sets.size());
            List<Integer> acts = acts(kind, state, token);
            return acts.isEmpty() ? -1 : acts.get(0);
        }

        /** All that a cell could do, what goes first at first. */
        private List<Integer> acts(char kind, int state, char token) {
            Table table = table(kind);
            TreeSet<Integer> rules = new TreeSet<>();
            boolean accepts = false;
            for (String text : table.sets.get(state)) {
                String[] item = text.split("\\.");
                int rule = Integer.parseInt(item[0]);
                if (Integer.parseInt(item[1]) != rightOf(rule).length()) {
                    continue;
                }
                if (rule == 99) {
                    accepts |= token == '$';
                } else if (kind == '0' || kind == 's' && behind(left.get(rule)).contains(token)
                        || item.length == 3 && item[2].charAt(0) == token) {
                    rules.add(rule);
                }
            }
            List<Integer> acts = new ArrayList<>();
            if (accepts) {
                acts.add(101);
            }
            if (table.leads.get(state).containsKey(token)) {
                acts.add(100);
            }
            acts.addAll(rules);
            return acts;
        }

        int sizeOf(char kind) {
            return memo.containsKey("over") ? 0 : table(kind).sets.size();
        }

        @SuppressWarnings("unchecked")
        private List<Integer> doubtful(char kind) {
            Table table = table(kind);
            if (!memo.containsKey("doubtful" + kind)) {
                memo.put("doubtful" + kind, findDoubtful(kind, table));
            }
            return (List<Integer>) memo.get("doubtful" + kind);
        }

        private List<Integer> findDoubtful(char kind, Table table) {
            List<Integer> cells = new ArrayList<>();
            for (int s = 0; s < table.sets.size(); s++) {
                for (int t = 0; t < 6; t++) {
                    if (acts(kind, s, "abcde$".charAt(t)).size() > 1) {
                        cells.add(10 * s + t);
                    }
                }
            }
            return cells;
        }

        private Object parse(char kind) {
            Table table = table(kind);
            List<Integer> by = new ArrayList<>();
            int[] count = new int[1];
            char end = follow(kind, table, by, count);
            used = by;
            steps = count[0];
            return end;
        }

        private char follow(char kind, Table table, List<Integer> by, int[] count) {
            List<Integer> stack = new ArrayList<>(List.of(0));
            String rest = text + "$";
            while (true) {
                int top = stack.get(stack.size() - 1);
                List<Integer> acts = acts(kind, top, rest.charAt(0));
                if (acts.isEmpty()) {
                    return 'n';
                }
                int act = acts.get(0);
                if (act == 101) {
                    return 'y';
                }
                if (count[0] == 400) {
                    return 'l';
                }
                count[0]++;
                if (act == 100) {
                    stack.add(table.leads.get(top).get(rest.charAt(0)));
                    rest = rest.substring(1);
                } else {
                    by.add(act);
                    for (int i = 0; i < right.get(act).length(); i++) {
                        stack.remove(stack.size() - 1);
                    }
                    stack.add(table.leads.get(stack.get(stack.size() - 1)).get(left.get(act)));
                }
            }
        }

        // ---- rows; an item is "rule.dot.row" ----

        private List<Set<String>> rows(String text) {
            List<Set<String>> rows = new ArrayList<>();
            for (int i = 0; i <= text.length(); i++) {
                rows.add(new LinkedHashSet<>());
            }
            rows.get(0).add("99.0.0");
            for (boolean grown = true; grown;) {
                grown = false;
                for (int i = 0; i <= text.length(); i++) {
                    for (String item : new ArrayList<>(rows.get(i))) {
                        grown |= follow(rows, text, i, item.split("\\."));
                    }
                }
            }
            return rows;
        }

        private boolean follow(List<Set<String>> rows, String text, int i, String[] item) {
            boolean grown = false;
            int rule = Integer.parseInt(item[0]);
            int dot = Integer.parseInt(item[1]);
            String row = rightOf(rule);
            if (dot == row.length()) {
                for (String other : new ArrayList<>(rows.get(Integer.parseInt(item[2])))) {
                    String[] older = other.split("\\.");
                    String above = rightOf(Integer.parseInt(older[0]));
                    int at = Integer.parseInt(older[1]);
                    if (rule != 99 && at < above.length() && above.charAt(at) == left.get(rule)) {
                        grown |= rows.get(i).add(older[0] + "." + (at + 1) + "." + older[2]);
                    }
                }
                return grown;
            }
            char symbol = row.charAt(dot);
            if (isToken(symbol)) {
                return i < text.length() && text.charAt(i) == symbol
                        && rows.get(i + 1).add(rule + "." + (dot + 1) + "." + item[2]);
            }
            for (int r = 0; r < left.size(); r++) {
                grown |= left.get(r) == symbol && rows.get(i).add(r + ".0." + i);
            }
            return grown;
        }

        private boolean word(String text) {
            return rows(text).get(text.length()).contains("99.1.0");
        }

        // ---- trees: all of them are made, as long as they are few ----

        private Set<String> derived;
        private Map<String, List<Node>> grown;

        private void derive() {
            derived = new HashSet<>();
            Set<String> before;
            do {
                before = new HashSet<>(derived);
                for (int r = 0; r < left.size(); r++) {
                    for (int i = 0; i <= text.length(); i++) {
                        for (int j = i; j <= text.length(); j++) {
                            if (makes(right.get(r), i, j)) {
                                derived.add(left.get(r) + "." + i + "." + j);
                            }
                        }
                    }
                }
            } while (!before.equals(derived));
        }

        private boolean makes(String row, int i, int j) {
            if (row.isEmpty()) {
                return i == j;
            }
            char symbol = row.charAt(0);
            if (isToken(symbol)) {
                return i < j && text.charAt(i) == symbol && makes(row.substring(1), i + 1, j);
            }
            for (int m = i; m <= j; m++) {
                if (derived.contains(symbol + "." + i + "." + m) && makes(row.substring(1), m, j)) {
                    return true;
                }
            }
            return false;
        }

        private List<Node> treesOf(char name, int i, int j) {
            String key = name + "." + i + "." + j;
            List<Node> list = grown.get(key);
            if (list == null) {
                list = new ArrayList<>();
                for (int r = 0; r < left.size(); r++) {
                    if (left.get(r) == name) {
                        split(r, 0, i, i, j, new ArrayList<>(), new ArrayList<>(), list);
                    }
                }
                if (list.size() > 3000) {
                    throw new TooBig();
                }
                grown.put(key, list);
            }
            return list;
        }

        private void split(int r, int place, int from, int i, int j, List<Integer> ends, List<Node> below,
                List<Node> list) {
            String row = right.get(r);
            if (!makes(row.substring(place), from, j) || list.size() > 3000) {
                return;
            }
            if (place == row.length()) {
                list.add(new Node(r, i, j, new ArrayList<>(ends), new ArrayList<>(below)));
                return;
            }
            if (isToken(row.charAt(place))) {
                ends.add(from + 1);
                split(r, place + 1, from + 1, i, j, ends, below, list);
                ends.remove(ends.size() - 1);
                return;
            }
            for (int m = from; m <= j; m++) {
                if (derived.contains(row.charAt(place) + "." + from + "." + m) && makes(row.substring(place + 1), m, j)) {
                    for (Node node : treesOf(row.charAt(place), from, m)) {
                        ends.add(m);
                        below.add(node);
                        split(r, place + 1, m, i, j, ends, below, list);
                        ends.remove(ends.size() - 1);
                        below.remove(below.size() - 1);
                    }
                }
            }
        }

        private boolean barred(Node node) {
            String row = right.get(node.rule());
            int next = 0;
            for (int p = 0; p < row.length(); p++) {
                if (isToken(row.charAt(p))) {
                    continue;
                }
                Node child = node.below().get(next++);
                int above = level.get(node.rule());
                int under = level.get(child.rule());
                boolean last = p == row.length() - 1;
                char by = side.get(node.rule());
                if (above > 0 && under > 0) {
                    if (under < above) {
                        return true;
                    }
                    if (under == above && (by == 'l' && last || by == 'r' && p == 0 || by == 'n' && (last || p == 0))) {
                        return true;
                    }
                }
                if (barred(child)) {
                    return true;
                }
            }
            return false;
        }

        private static int compare(Node a, Node b) {
            if (a.rule() != b.rule()) {
                return Integer.compare(a.rule(), b.rule());
            }
            for (int p = 0; p < a.ends().size(); p++) {
                if (!a.ends().get(p).equals(b.ends().get(p))) {
                    return a.ends().get(p) - b.ends().get(p);
                }
            }
            for (int p = 0; p < a.below().size(); p++) {
                int c = compare(a.below().get(p), b.below().get(p));
                if (c != 0) {
                    return c;
                }
            }
            return 0;
        }

        @SuppressWarnings("unchecked")
        private List<Node> allTrees(boolean pruning) {
            if (liveRound()) {
                throw new UnsupportedOperationException();
            }
            String key = "trees" + pruning + text;
            if (!memo.containsKey(key)) {
                List<Node> list = null;
                try {
                    derive();
                    grown = new HashMap<>();
                    list = derived.contains(start + ".0." + text.length())
                            ? new ArrayList<>(treesOf(start, 0, text.length())) : new ArrayList<>();
                    if (pruning) {
                        list.removeIf(this::barred);
                    }
                    Collections.sort(list, Oracle::compare);
                } catch (TooBig e) {
                    list = null;
                }
                memo.put(key, list);
            }
            return (List<Node>) memo.get(key);
        }

        private Object trees(boolean pruning) {
            List<Node> list = allTrees(pruning);
            BigInteger most = BigInteger.valueOf(1000000);
            derive();
            BigInteger sum = BigInteger.ZERO;
            Map<String, BigInteger> counts = new HashMap<>();
            for (int r = 0; r < left.size(); r++) {
                if (left.get(r) == start) {
                    sum = sum.add(count(counts, pruning, r, 0, 0, text.length()));
                }
            }
            int told = sum.min(most).intValue();
            if (list != null && list.size() != told) {
                throw new IllegalStateException("the trees that were made are as many as " + list.size());
            }
            return told;
        }

        /** In how many ways the symbols of a rule from a place on make a span. */
        private BigInteger count(Map<String, BigInteger> counts, boolean pruning, int r, int place, int i, int j) {
            String row = right.get(r);
            String key = r + "." + place + "." + i + "." + j;
            if (!makes(row.substring(place), i, j)) {
                return BigInteger.ZERO;
            }
            if (place == row.length()) {
                return BigInteger.ONE;
            }
            if (isToken(row.charAt(place))) {
                return count(counts, pruning, r, place + 1, i + 1, j);
            }
            BigInteger sum = counts.get(key);
            if (sum == null) {
                sum = BigInteger.ZERO;
                for (int m = i; m <= j; m++) {
                    boolean fits = derived.contains(row.charAt(place) + "." + i + "." + m)
                            && makes(row.substring(place + 1), m, j);
                    for (int q = 0; q < left.size() && fits; q++) {
                        if (left.get(q) == row.charAt(place) && !(pruning && bars(r, place, q))) {
                            sum = sum.add(count(counts, pruning, q, 0, i, m)
                                    .multiply(count(counts, pruning, r, place + 1, m, j)));
                        }
                    }
                }
                counts.put(key, sum);
            }
            return sum;
        }

        private boolean bars(int r, int place, int q) {
            boolean last = place == right.get(r).length() - 1;
            boolean atSide = side.get(r) == 'l' && last || side.get(r) == 'r' && place == 0
                    || side.get(r) == 'n' && (last || place == 0);
            return level.get(r) > 0 && level.get(q) > 0
                    && (level.get(q) < level.get(r) || atSide && level.get(q).equals(level.get(r)));
        }

        private Object node(int index, boolean span) {
            List<Node> list = allTrees(true);
            List<Node> flat = leastTree();
            if (list != null) {
                List<Node> first = new ArrayList<>();
                if (!list.isEmpty()) {
                    flatten(list.get(0), first);
                }
                if (!places(first).equals(places(flat))) {
                    throw new IllegalStateException("the first one of all trees is " + places(first));
                }
            }
            if (index < 0 || index >= flat.size()) {
                throw new NoSuchElementException();
            }
            Node node = flat.get(index);
            return span ? 100 * node.begin() + node.end() : node.rule();
        }

        private static String places(List<Node> flat) {
            StringBuilder all = new StringBuilder();
            for (Node node : flat) {
                all.append(node.rule()).append(':').append(node.begin()).append('-').append(node.end()).append(' ');
            }
            return all.toString();
        }

        /** The least tree by going down from above, since there can be too many trees to make them all. */
        @SuppressWarnings("unchecked")
        private List<Node> leastTree() {
            String key = "trees least" + text;
            if (!memo.containsKey(key)) {
                List<Node> flat = new ArrayList<>();
                derive();
                Map<String, BigInteger> counts = new HashMap<>();
                int rule = lowest(counts, start, NO_RULE, 0, 0, text.length());
                if (rule != NO_RULE) {
                    goDown(counts, rule, 0, text.length(), flat);
                }
                memo.put(key, flat);
            }
            return (List<Node>) memo.get(key);
        }

        private static final int NO_RULE = -1;

        /** The lowest rule of a name that may stand at a place of a rule above, and has a tree over the span. */
        private int lowest(Map<String, BigInteger> counts, char name, int above, int place, int i, int j) {
            for (int q = 0; q < left.size(); q++) {
                if (left.get(q) == name && (above == NO_RULE || !bars(above, place, q))
                        && count(counts, true, q, 0, i, j).signum() > 0) {
                    return q;
                }
            }
            return NO_RULE;
        }

        private void goDown(Map<String, BigInteger> counts, int r, int i, int j, List<Node> flat) {
            flat.add(new Node(r, i, j, List.of(), List.of()));
            String row = right.get(r);
            int from = i;
            for (int place = 0; place < row.length(); place++) {
                if (isToken(row.charAt(place))) {
                    from++;
                    continue;
                }
                int to = from;
                int below = NO_RULE;
                while (below == NO_RULE) {
                    if (count(counts, true, r, place + 1, to, j).signum() > 0) {
                        below = lowest(counts, row.charAt(place), r, place, from, to);
                    }
                    to += below == NO_RULE ? 1 : 0;
                }
                goDown(counts, below, from, to, flat);
                from = to;
            }
        }

        private static void flatten(Node node, List<Node> flat) {
            flat.add(node);
            for (Node child : node.below()) {
                flatten(child, flat);
            }
        }

        // ---- words and repair ----

        private Set<String> language(int longest) {
            Map<Character, Set<String>> made = new HashMap<>();
            for (char name : "ABCDEF".toCharArray()) {
                made.put(name, new HashSet<>());
            }
            for (boolean more = true; more;) {
                more = false;
                for (int r = 0; r < left.size(); r++) {
                    Set<String> heads = new HashSet<>(Set.of(""));
                    for (char symbol : right.get(r).toCharArray()) {
                        Set<String> longer = new HashSet<>();
                        for (String head : heads) {
                            for (String tail : isToken(symbol) ? Set.of("" + symbol) : made.get(symbol)) {
                                if (head.length() + tail.length() <= longest) {
                                    longer.add(head + tail);
                                }
                            }
                        }
                        heads = longer;
                    }
                    more |= made.get(left.get(r)).addAll(heads);
                    if (made.get(left.get(r)).size() > 4000) {
                        throw new TooBig();
                    }
                }
            }
            return made.get(start);
        }

        @SuppressWarnings("unchecked")
        List<String> wordsByLength() {
            if (!memo.containsKey("words")) {
                List<String> list = new ArrayList<>(language(5));
                list.sort((a, b) -> a.length() != b.length() ? a.length() - b.length() : a.compareTo(b));
                memo.put("words", list);
            }
            return (List<String>) memo.get("words");
        }

        private Object words(int length) {
            checkArgument(length >= 0 && length <= 5);
            return (int) wordsByLength().stream().filter(word -> word.length() <= length).count();
        }

        private Object wordAt(int index, int place) {
            check(index >= 0 && index < wordsByLength().size());
            String word = wordsByLength().get(index);
            check(place >= 0 && place < word.length());
            return word.charAt(place);
        }

        private Object repair() {
            if (!lengths().containsKey(start)) {
                throw new NoSuchElementException();
            }
            int longest = 7;
            Set<String> language;
            try {
                language = language(longest);
            } catch (TooBig e) {
                longest = 5;
                language = new HashSet<>(wordsByLength());
            }
            int least = 1 << 30;
            for (String word : language) {
                least = Math.min(least, distance(word, text));
            }
            int cost = costBySpans();
            // a longer word costs as many as it is longer at least
            if (cost > least || cost < least && cost <= longest - text.length()) {
                throw new IllegalStateException("the words up to " + longest + " cost " + least);
            }
            return cost;
        }

        /** What it costs to make the text a word: that of each name over each span is lowered until nothing sinks. */
        private int costBySpans() {
            int size = text.length() + 1;
            int[][][] costs = new int[6][size][size];
            for (int[][] ofName : costs) {
                for (int[] from : ofName) {
                    Arrays.fill(from, MUCH);
                }
            }
            for (boolean sunk = true; sunk;) {
                sunk = false;
                for (int r = 0; r < left.size(); r++) {
                    for (int i = 0; i < size; i++) {
                        int[] to = costsOfRow(costs, right.get(r), i);
                        for (int j = i; j < size; j++) {
                            sunk |= to[j] < costs[left.get(r) - 'A'][i][j];
                            costs[left.get(r) - 'A'][i][j] = Math.min(to[j], costs[left.get(r) - 'A'][i][j]);
                        }
                    }
                }
            }
            return costs[start - 'A'][0][size - 1];
        }

        private static final int MUCH = 1 << 28;

        /** What it costs to make the spans from a place on a row of symbols, for each end. */
        private int[] costsOfRow(int[][][] costs, String row, int from) {
            int size = text.length() + 1;
            int[] reach = new int[size];
            Arrays.fill(reach, MUCH);
            for (int j = from; j < size && (row.isEmpty() || j == from); j++) {
                reach[j] = j - from;
            }
            for (char symbol : row.toCharArray()) {
                int[] next = new int[size];
                Arrays.fill(next, MUCH);
                for (int i = from; i < size; i++) {
                    for (int j = i; j < size; j++) {
                        int one = isToken(symbol) ? costOfToken(symbol, i, j) : costs[symbol - 'A'][i][j];
                        next[j] = Math.min(next[j], reach[i] + one);
                    }
                }
                reach = next;
            }
            return reach;
        }

        private int costOfToken(char token, int i, int j) {
            return i == j ? 1 : j - i - (text.substring(i, j).indexOf(token) < 0 ? 0 : 1);
        }

        private static int distance(String a, String b) {
            int[] row = new int[b.length() + 1];
            for (int j = 0; j <= b.length(); j++) {
                row[j] = j;
            }
            for (int i = 1; i <= a.length(); i++) {
                int[] next = new int[b.length() + 1];
                next[0] = i;
                for (int j = 1; j <= b.length(); j++) {
                    int change = row[j - 1] + (a.charAt(i - 1) == b.charAt(j - 1) ? 0 : 1);
                    next[j] = Math.min(change, Math.min(row[j], next[j - 1]) + 1);
                }
                row = next;
            }
            return row[b.length()];
        }

        private Object meanLength() {
            if (left.isEmpty()) {
                throw new ArithmeticException();
            }
            return (double) right.stream().mapToInt(String::length).sum() / (double) left.size();
        }

        private Object sound() {
            boolean word = word(text);
            for (char kind : "0sl1".toCharArray()) {
                try {
                    if (doubtful(kind).isEmpty()) {
                        boolean accepted = follow(kind, table(kind), new ArrayList<>(), new int[1]) == 'y';
                        if (accepted != word) {
                            return false;
                        }
                    }
                } catch (UnsupportedOperationException e) {
                    return true;
                }
            }
            return true;
        }
    }
}
