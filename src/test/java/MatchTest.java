/** Promises 16 and 17: match and bound. */
final class MatchTest {
    private static final String BAG = "sort Tok Bag . subsort Tok < Bag . op none : -> Bag . op _ _ : Bag Bag -> Bag [ assoc comm id none ] ."
            + " op a : -> Tok . op b : -> Tok . op c : -> Tok . op d : -> Tok . op e : -> Tok . op g : -> Tok . op w : Bag -> Tok . var T U : Tok . var B C D : Bag .";

    public static void main(String[] args) {
        plain();
        bags();
        lists();
        units();
        bounds();
        stops();
        byTrying();
        System.exit(House.ending());
    }

    private static void plain() {
        House h = new House("plain").with("sort A B . subsort A < B . op a : -> A . op b : -> B . op f : B B -> B . op m : B B -> B [ comm ] ."
                + " op k : B -> B . sort O . op o : -> O . var X : A . var Y Z : B .");
        h.due("a variable", h.matchers("Y", "f ( a , b )", false, 2), "-, f ( a , b )");
        h.due("of a lower sort", h.matchers("X", "b", false, 1), "");
        h.due("of its sort", h.matchers("X", "a", false, 1), "a");
        h.due("f", h.matchers("f ( X , Y )", "f ( a , b )", false, 3), "a, b, -");
        h.due("f the same", h.matchers("f ( Y , Y )", "f ( a , b )", false, 3), "");
        h.due("f the same", h.matchers("f ( Y , Y )", "f ( b , b )", false, 3), "-, b, -");
        h.due("comm", h.matchers("m ( Y , Z )", "m ( b , a )", false, 3), "-, a, b; -, b, a");
        h.due("comm", h.matchers("m ( X , Y )", "m ( b , a )", false, 3), "a, b, -");
        h.due("comm the same", h.matchers("m ( Y , Z )", "m ( a , a )", false, 3), "-, a, a");
        h.due("nested", h.matchers("m ( k ( Y ) , Z )", "m ( k ( a ) , k ( b ) )", false, 3), "-, a, k ( b ); -, b, k ( a )");
        h.due("without variables", h.matchers("m ( a , b )", "m ( b , a )", false, 0), "");
        h.due("variables in T are like others", h.matchers("k ( Y )", "k ( X )", false, 2), "-, X");
        h.due("another OPERATOR", h.matchers("k ( Y )", "m ( a , b )", false, 2), "");
        int p = h.term("a");
        h.due("one without variables", h.x().match(p, p, false), 1);
        int o = h.term("o");
        h.due("another KIND", h.x().match(p, o, false), -1);
        h.due("no such handle", h.x().match(p, 99, true), -1);
        h.due("no such handle", h.x().match(-1, p, true), -1);
    }

    private static void bags() {
        House h = new House("bags").with(BAG);
        h.due("two of three", h.matchers("B C", "a b", false, 4), "-, -, none, a b; -, -, a b, none; -, -, a, b; -, -, b, a");
        h.due("the same twice", h.matchers("B B", "a a b b", false, 4), "-, -, a b, -");
        h.due("one and the rest", h.matchers("T B", "a b a", false, 4), "a, -, a b, -; b, -, a a, -");
        h.due("one left alone", h.matchers("T B", "a", false, 4), "a, -, none, -");
        h.due("none", h.matchers("B C", "none", false, 4), "-, -, none, none");
        h.due("within", h.matchers("a", "a b", true, 4), "");
        h.due("within a row", h.matchers("a b", "a b c", true, 0), " >c");
        h.due("within, the pattern is assoc", h.matchers("T U", "a b c", true, 2),
                "a, b >c; a, c >b; b, a >c; b, c >a; c, a >b; c, b >a");
        h.due("of one at least", h.matchers("B B", "a b", true, 3), "");
        h.due("of one at least", h.matchers("B C", "a a", true, 4),
                "-, -, none, a a; -, -, none, a >a; -, -, a a, none; -, -, a, none >a; -, -, a, a");
        h.due("deep", h.matchers("w ( T B ) C", "w ( a b ) c", false, 5), "a, -, b, c, -; b, -, a, c, -");
        h.due("no row in it", h.matchers("T B", "w ( a )", true, 4), "w ( a ), -, none, -");
    }

    private static void lists() {
        House h = new House("lists").with("sort El List . subsort El < List . op nil : -> List . op _ _ : List List -> List [ assoc id nil ] ."
                + " op x : -> El . op y : -> El . op z : -> El . op _ + _ : List List -> List [ assoc ] . var E F : El . var L K : List .");
        h.due("in a row", h.matchers("L K", "x y", false, 4), "-, -, nil, x y; -, -, x y, nil; -, -, x, y");
        h.due("first and last", h.matchers("E L F", "x y z", false, 4), "x, z, y, -");
        h.due("first and last of two", h.matchers("E L F", "x y", false, 4), "x, y, nil, -");
        h.due("of one", h.matchers("E L F", "x", false, 4), "");
        h.due("side by side", h.matchers("E F", "x y z", true, 4), "x, y, -, - >z; y, z, -, - <x");
        h.due("the same, other places", h.matchers("E F", "x y x y", true, 4), "x, y, -, - >x y; x, y, -, - <x y; y, x, -, - <x >y");
        h.due("of one at least", h.matchers("L L", "x x", true, 3), "-, -, x");
        h.due("of one", h.matchers("E L", "x y", true, 3), "x, -, nil >y; x, -, y; y, -, nil <x");
        h.due("without id", h.matchers("L + K", "x + y + z", false, 4), "-, -, x, y + z; -, -, x + y, z");
        h.due("without id none", h.matchers("L + E + L + K", "x + y + x", false, 4), "");
        h.due("without id in a row", h.matchers("L + L + K", "x + y + x + y", false, 4), "");
        h.due("rows in rows", h.matchers("( L x ) + K", "( y x ) + z", false, 4), "-, -, y, z");
    }

    private static void units() {
        House h = new House("units").with("sort A B . subsort A < B . op e : -> A . op a : -> A . op b : -> B . op n : B B -> B [ id e ] . op m : B B -> B [ comm id e ] ."
                + " op k : B B -> B . op _ ; _ : B B -> B [ assoc ] . var X : A . var Y Z : B .");
        h.due("in order", h.matchers("n ( X , Y )", "n ( a , b )", false, 3), "e, n ( a , b ), -; a, b, -");
        h.due("one is the id", h.matchers("n ( Y , Z )", "b", false, 3), "-, e, b; -, b, e");
        h.due("both are", h.matchers("n ( Y , Z )", "e", false, 3), "-, e, e");
        h.due("turned", h.matchers("m ( Y , Z )", "m ( a , b )", false, 3), "-, e, m ( a , b ); -, a, b; -, b, a; -, m ( a , b ), e");
        h.due("nested", h.matchers("n ( n ( X , Y ) , Z )", "a", false, 3), "e, e, a; e, a, e; a, e, e");
        h.due("nested in another", h.matchers("k ( n ( X , Y ) , Z )", "k ( a , b )", false, 3), "e, a, b; a, e, b");
        h.due("an item becomes a row", h.matchers("n ( X , Y ) ; Z", "a ; b ; b", false, 3), "e, a, b ; b; e, a ; b, b; a, e, b ; b");
        h.due("within means nothing here", h.matchers("n ( X , a )", "n ( b , a )", true, 1), "");
    }

    private static void bounds() {
        House h = new House("bound").with(BAG);
        int p = h.term("T B");
        int t = h.term("a b c");
        h.due("match", h.x().match(p, t, true), 12);
        h.due("count(8)", h.x().count(8), 12);
        h.due("result: they are MATCHERS", h.x().result(0), -1);
        h.due("way: they are MATCHERS", h.x().way(0, 0), -1);
        h.due("search: no STATES", h.x().search(p, 0), -1);
        h.due("law: no STATES", h.x().law(0, p, 0), -1);
        int got = h.x().bound(0, 0);
        h.due("T", h.shown(got), "a");
        h.due("B", h.shown(h.x().bound(0, 2)), "none");
        h.due("behind", h.shown(h.x().bound(0, -2)), "b c");
        h.due("ahead: nothing", h.x().bound(0, -1), -2);
        h.due("behind nothing", h.x().bound(1, -2), -2);
        h.due("behind one alone", h.shown(h.x().bound(2, -2)), "c");
        h.due("U", h.x().bound(0, 1), -2);
        h.due("59", h.x().bound(0, 59), -2);
        h.due("30", h.x().bound(0, 30), -2);
        h.due("60", h.x().bound(0, 60), -1);
        h.due("-3", h.x().bound(0, -3), -1);
        h.due("12th", h.x().bound(12, 0), -1);
        h.due("-1st", h.x().bound(-1, 0), -1);
        h.due("BAD leaves them", h.x().match(p, 99, true), -1);
        h.due("count(8)", h.x().count(8), 12);
        h.x().steps(t);
        h.due("the RESULTS are none", h.x().bound(0, 0), -1);
        for (int k = h.x().count(7); k < 200; k++) {
            h.x().part(t, 0);
        }
        h.x().match(p, t, false);
        h.due("FULL", h.x().bound(0, 0), -3);
        h.due("NONE first", h.x().bound(0, 1), -2);
        h.due("BAD first", h.x().bound(9, 1), -1);
    }

    private static void stops() {
        House h = new House("stops").with(BAG);
        h.due("81 matchers", h.x().match(h.term("B C D"), h.term("a b c d"), false), 81);
        h.due("243 are too many", h.x().match(h.term("B C D"), h.term("a b c d e"), false), -22);
        h.due("the latest STOP", h.x().count(9), 2);
        h.due("RESULTS stay", h.x().count(8), 81);
        h.due("a row of 6", h.x().match(h.term("T U"), h.term("a a a a a a"), true), 1);
        h.due("a row of 7 is WIDE", h.x().match(h.term("T U"), h.term("a a a a a a a"), true), -23);
        h.due("deep in it, too", h.x().match(h.term("T U"), h.term("w ( a a a a a a a )"), true), -23);
        h.due("not, if its OPERATOR is not in P", h.x().match(h.term("w ( B )"), h.term("w ( a a a a a a a )"), true), 1);
        h.due("262,144 DEALS", h.x().match(h.term("T T T T T T T"), h.term("a b c d e g"), false), 0);
        h.due("531,441 DEALS", h.x().match(h.term("T T T T T T T T"), h.term("a b c d e g"), false), -24);
        h.due("whatever P and T are", h.x().match(h.term("w ( T T T T T T T T )"), h.term("w ( a ) w ( a b c d e g )"), false), -24);
        h.due("the latest STOP", h.x().count(9), 4);
        h.with("sort A . op a : -> A . op _ _ : A A -> A [ assoc ] . var X Y Z V W U T S R Q : A .");
        // 6 dealt to r + 2 in a row: 12! / 6! 6! = 924 for r = 5
        h.due("in a row", h.x().match(h.term("X Y Z V W"), h.term("a a a a a a"), false), 5);
        h.with("sort A B . op a : -> A . op _ _ : A A -> A [ assoc ] . op k : A A -> B . var X Y Z V W : A .");
        h.due("924 times 84", h.x().match(h.term("k ( X Y Z V W , X Y )"), h.term("k ( a a a a a a , a a )"), false), 3);
        h.due("924 times 924", h.x().match(h.term("k ( X Y Z V W , X Y Z V W )"), h.term("k ( a a a a a a , a a )"), false), -24);
        h.with("sort A . op a : -> A . op m : A A -> A [ comm ] . op f : A -> A . var X : A .");
        StringBuilder p = new StringBuilder("X");
        for (int k = 0; k < 5; k++) {
            p.insert(0, "m ( a , ").append(" )");
        }
        h.due("2 for each comm row", h.x().match(h.term(p.toString()), h.term("a"), false), 0);
    }

    /** For each way to put terms for variables: it is a matcher if, and only if, the pattern becomes the term. */
    private static void byTrying() {
        String[] operators = {"assoc comm id none", "assoc comm", "assoc id none", "assoc", "comm id none", "comm", "id none"};
        String[] patterns = {"B T", "B C", "T B B", "w ( B ) C", "B + T", "w ( B T ) + C", "B + B", "( B + T ) C"};
        String[] terms = {"a", "none", "a b", "b a a", "a w ( b )", "a + b", "w ( a b ) + b", "a + a", "w ( a b ) w ( a )", "( a + b ) b", "w ( none ) a"};
        String[] values = {"none", "a", "b", "a b", "b a", "a a", "b a a", "a b a", "w ( b )", "w ( a )", "a + b", "w ( a b )", "w ( none )", "a w ( b )", "w ( b ) a",
            "a + a", "w ( a b ) + b", "b + a", "w ( a b ) w ( a )", "w ( a ) w ( a b )", "b + w ( a b )", "( a + b ) b", "b ( a + b )", "w ( none ) a", "a w ( none )"};
        for (String row : operators) {
            for (String plus : new String[] {"assoc comm id none", "id none"}) {
                String module = "sort Tok Bag . subsort Tok < Bag . op none : -> Bag . op _ _ : Bag Bag -> Bag [ " + row + " ] . op a : -> Tok . op b : -> Tok ."
                        + " op w : Bag -> Tok . op _ + _ : Bag Bag -> Bag [ " + plus + " prec 50 ] . var T : Tok . var B C : Bag .";
                for (String pattern : patterns) {
                    tryAll(module, pattern, terms, values);
                }
            }
        }
    }

    private static void tryAll(String module, String pattern, String[] terms, String[] values) {
        House h = new House("by trying " + module.substring(50, 110) + pattern).with(module);
        if (h.term(pattern) < 0) {
            return;
        }
        java.util.Map<String, java.util.Set<String>> tried = tried(h, pattern, values);
        for (String term : terms) {
            h.spare(150);
            h.x().forget();
            int p = h.term(pattern);
            int t = h.term(term);
            if (t < 0) {
                continue;
            }
            java.util.Set<String> wanted = tried.getOrDefault(h.shown(t), new java.util.TreeSet<>());
            int found = h.x().match(p, t, false);
            java.util.Set<String> listed = new java.util.TreeSet<>();
            for (int i = 0; i < found; i++) {
                if (h.spare(120)) {
                    h.x().match(h.term(pattern), h.term(term), false);
                }
                listed.add(boundText(h, i, 0) + "," + boundText(h, i, 1) + "," + boundText(h, i, 2));
            }
            h.due(term + " each once", listed.size(), found);
            h.due(term, listed.toString(), wanted.toString());
        }
    }

    private static String boundText(House h, int i, int v) {
        int got = h.x().bound(i, v);
        String text = got < 0 ? "-" : h.shown(got);
        h.x().forget();
        return text;
    }

    /** For all values of the variables what the pattern becomes, as it is printed. */
    private static java.util.Map<String, java.util.Set<String>> tried(House h, String pattern, String[] values) {
        java.util.Map<String, java.util.Set<String>> all = new java.util.TreeMap<>();
        String[] tokens = pattern.contains("T") ? new String[] {"a", "b", "w ( b )", "w ( a )", "w ( a b )", "w ( b a )", "w ( none )"} : new String[] {"-"};
        String[] firsts = pattern.contains("B") ? values : new String[] {"-"};
        String[] seconds = pattern.contains("C") ? values : new String[] {"-"};
        for (String t : tokens) {
            for (String b : firsts) {
                for (String c : seconds) {
                    String filled = pattern.replace("T", "( " + t + " )").replace("B", "( " + b + " )").replace("C", "( " + c + " )");
                    String became = same(h, filled);
                    all.computeIfAbsent(became, k -> new java.util.TreeSet<>()).add(same(h, t) + "," + same(h, b) + "," + same(h, c));
                }
            }
        }
        return all;
    }

    /** A text as the term that it is would be printed. */
    private static String same(House h, String value) {
        h.spare(60);
        h.x().forget();
        int got = value.equals("-") ? -1 : h.term(value);
        return got < 0 ? value : h.shown(got);
    }
}
