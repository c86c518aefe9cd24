/** Promises 19 to 25: steps, result, way, states, search, law, strategy. */
final class WaysTest {
    private static final String BAG = "sort Tok Bag . subsort Tok < Bag . op none : -> Bag . op _ _ : Bag Bag -> Bag [ assoc comm id none ] . op a : -> Tok . op b : -> Tok . op c : -> Tok ."
            + " op w : Bag -> Tok . sort Q . op q : -> Q . op u : Bag Bag -> Q . var T : Tok . var B C : Bag . ";

    public static void main(String[] args) {
        steps();
        conditions();
        states();
        laws();
        strategies();
        plans();
        limits();
        System.exit(House.ending());
    }

    private static String list(House h, int got) {
        String text = got < 0 ? "" + got : h.results();
        h.due("how many", got < 0 ? got : h.x().count(8), got);
        h.x().forget();
        return text;
    }

    private static String stepsOf(House h, String text) {
        int t = h.term(text);
        return list(h, h.x().steps(t));
    }

    private static void steps() {
        House h = new House("steps").with(BAG + "rl one : a => b . rl two : b => c . rl three : a b => a . eq c c = none .");
        h.due("the whole, then its row; rules; matchers", stepsOf(h, "a b"), "a; b b; a c");
        h.due("inside", stepsOf(h, "w ( a ) b"), "c w ( a ); b w ( b )");
        h.due("the same are left out", stepsOf(h, "a a"), "a b");
        h.due("REDUCED before and after", stepsOf(h, "c c b c"), "none");
        h.due("none", stepsOf(h, "c"), "");
        h.due("a row twice", stepsOf(h, "w ( a ) w ( a )"), "w ( a ) w ( b )");
        int t = h.term("a b");
        h.due("three", h.x().steps(t), 3);
        h.due("the third rule", h.x().way(0, 0), 2);
        h.due("the first rule", h.x().way(1, 0), 0);
        h.due("the second rule", h.x().way(2, 0), 1);
        h.due("way(3, 0)", h.x().way(3, 0), -1);
        h.due("way(-1, 0)", h.x().way(-1, 0), -1);
        h.due("way(0, 1)", h.x().way(0, 1), -1);
        h.due("bound: no MATCHERS", h.x().bound(0, 0), -1);
        h.due("search: no STATES", h.x().search(t, 0), -1);
        h.due("result(3)", h.x().result(3), -1);
        h.due("result(-1)", h.x().result(-1), -1);
        h.due("steps: BAD", h.x().steps(9), -1);
        h.due("RESULTS stay", h.x().count(8), 3);
        h.due("a rule that came first", h.with(BAG + "rl one : a => b . rl two : a => b .").term("a"), 0);
        h.x().steps(0);
        h.due("one", h.x().count(8), 1);
        h.due("is the first", h.x().way(0, 0), 0);
        h.due("STEPS count all", h.x().count(10), 2);
    }

    private static void conditions() {
        House h = new House("conditions").with(BAG + "rl split : q => u ( B , C ) if B C := a b . rl cut : u ( B , C ) => u ( B , none ) if T := C /\\ T = b . rl no : w ( B ) => a if B : Tok .");
        h.due("all ways, in order", stepsOf(h, "q"), "u ( none , a b ); u ( a b , none ); u ( a , b ); u ( b , a )");
        h.due("C holds", stepsOf(h, "u ( a , b )"), "u ( a , none )");
        h.due("C does not", stepsOf(h, "u ( b , a )"), "");
        h.due("T : SORT", stepsOf(h, "w ( b )"), "a");
        h.due("T : SORT", stepsOf(h, "w ( b b )"), "");
        // a C of a rule is 1 deep
        h.with("sort A . op a : -> A . op f : A -> A . rl r : a => a if f ( a ) = a . eq f ( a ) = f ( f ( a ) ) .");
        h.due("too deep", stepsOf(h, "a"), "-25");
        h.due("at the 60th", h.x().count(10), 60);
    }

    private static void states() {
        House h = new House("states").with(BAG + "rl ab : a => b . rl bc : b b => c . rl ca : c a => a a .");
        int t = h.term("a a a");
        h.due("states", h.x().states(t), 10);
        String[] due = {"a a a", "a a b", "a b b", "a c", "b b b", "a a", "b c", "a b", "b b", "c"};
        int[][] ways = {{-2, -2, 0, 1}, {0, 0, 1, 1}, {1, 0, 2, 2}, {2, 1, 3, 2}, {2, 0, 3, 1}, {3, 2, 4, 1}, {3, 0, 4, 0}, {5, 0, 5, 1}, {7, 0, 6, 1}, {8, 1, 7, 0}};
        h.x().forget();
        String[] got = h.results().split("; ");
        for (int k = 0; k < 10; k++) {
            h.due("state " + k, got[k], due[k]);
            for (int what = 0; what < 4; what++) {
                h.due("way(" + k + ", " + what + ")", h.x().way(k, what), ways[k][what]);
            }
        }
        h.due("way(0, 4)", h.x().way(0, 4), -1);
        h.due("way(0, -1)", h.x().way(0, -1), -1);
        h.due("way(10, 0)", h.x().way(10, 0), -1);
        h.x().forget();
        int c = h.term("c B");
        h.due("search", h.x().search(c, 0), 3);
        h.due("search from there on", h.x().search(c, 3), 3);
        h.due("search behind it", h.x().search(c, 4), 6);
        h.due("search to the end", h.x().search(h.term("a a a a"), 0), -2);
        h.due("search: no such i", h.x().search(c, 10), -1);
        h.due("search: no such i", h.x().search(c, -1), -1);
        h.due("search: no such handle", h.x().search(99, 0), -1);
        h.due("search of another KIND", h.x().search(h.term("q"), 0), -2);
        h.due("search is of the whole", h.x().search(h.term("a"), 0), -2);
        h.due("states: BAD", h.x().states(99), -1);
        h.due("RESULTS stay", h.x().count(8), 10);
        h.x().reduce(c);
        h.due("reduce leaves RESULTS", h.x().count(8), 10);
    }

    private static void laws() {
        House h = new House("laws").with("sort S . op p : -> S . op q : -> S . op r : -> S . op x : -> S . op y : -> S . op d : -> S . op k : S -> S . sort O . op o : -> O . var S : S ."
                + " rl a : p => q . rl b : q => r . rl c : x => x . rl d : y => x . rl e : y => d . rl f : p => y .");
        int p = h.term("p");
        int q = h.term("q");
        int r = h.term("r");
        int any = h.term("S");
        int o = h.term("o");
        int y = h.term("y");
        int d = h.term("d");
        // p, q, y, r, x, d
        h.due("states", h.x().states(p), 6);
        h.due("always S", h.x().law(0, any, -1), 1);
        h.due("always p", h.x().law(0, p, 0), -11);
        h.due("always q", h.x().law(0, q, 0), -10);
        h.due("never q", h.x().law(1, q, 0), -11);
        h.due("never p", h.x().law(1, p, 0), -10);
        h.due("never o", h.x().law(1, o, 0), 1);
        h.due("always o", h.x().law(0, o, 0), -10);
        h.due("must p", h.x().law(2, p, 0), 1);
        h.due("must q: y ends", h.x().law(2, q, 0), -10);
        h.due("leads p to p", h.x().law(3, p, p), 1);
        h.due("leads p to r", h.x().law(3, p, r), -10);
        h.due("leads q to r", h.x().law(3, q, r), 1);
        h.due("leads y to d: x goes on", h.x().law(3, y, d), -12);
        h.due("leads S to r: p", h.x().law(3, any, r), -10);
        h.due("leads o to r", h.x().law(3, o, r), 1);
        h.due("leads d to r: d ends", h.x().law(3, d, r), -15);
        h.due("no such law", h.x().law(4, p, q), -1);
        h.due("no such law", h.x().law(-1, p, q), -1);
        h.due("no such handle", h.x().law(0, 99, q), -1);
        h.due("no such handle", h.x().law(3, p, 99), -1);
        h.due("q counts for leads alone", h.x().law(2, p, 99), 1);
        h.x().states(q);
        h.due("must r", h.x().law(2, r, 0), 1);
        h.x().states(h.term("x"));
        h.due("a step to itself goes on without end", h.x().law(2, r, 0), -10);
        h.x().steps(p);
        h.due("the RESULTS are no STATES", h.x().law(0, p, 0), -1);
    }

    private static String answers(House h, String term, String plan) {
        int t = h.term(term);
        return list(h, h.strategy(t, plan));
    }

    private static void strategies() {
        House h = new House("strategies").with(BAG + "rl p : a => b . rl q : b => c . rl p : c => w ( c ) if w ( B ) := c . rl p : w ( B ) => c . eq w ( none ) = c .");
        h.due("idle", answers(h, "w ( none )", "idle"), "c");
        h.due("fail", answers(h, "a", "fail"), "");
        h.due("all", answers(h, "a b", "all"), "b b; a c");
        h.due("LABEL", answers(h, "a b", "q"), "a c");
        h.due("LABEL of several rules", answers(h, "a w ( b )", "p"), "b w ( b ); a c");
        h.due("|", answers(h, "a b", "q | p | q"), "a c; b b");
        h.due(";", answers(h, "a b", "p ; q"), "b c");
        h.due("; before |", answers(h, "a b", "p ; q | q"), "b c; a c");
        h.due("( )", answers(h, "a b", "p ; ( q | q )"), "b c");
        h.due("*", answers(h, "a b", "p *"), "a b; b b");
        h.due("* of all", answers(h, "a b", "all *"), "a b; b b; a c; b c; c c");
        h.due("!", answers(h, "a b", "all !"), "c c");
        h.due("! of one", answers(h, "a b", "p !"), "b b");
        h.due("! ! of none", answers(h, "c", "p ! !"), "");
        h.due("not", answers(h, "a b", "not ( p )"), "");
        h.due("not", answers(h, "b", "not ( p )"), "b");
        h.due("one", answers(h, "a b", "one ( all )"), "b b");
        h.due("one of none", answers(h, "c", "one ( all )"), "");
        h.due("one | and !", answers(h, "a a b", "one ( p | q ) !"), "c c c");
        h.due("each time anew", answers(h, "a", "p | p"), "b");
        h.due("STEPS", h.x().count(10), 2);
        h.due("of S * once for each", answers(h, "a b", "all !"), "c c");
        h.due("STEPS", h.x().count(10), 6);
        h.due("the tape is empty then", h.x().end(0), -1);
        int t = h.term("a");
        h.strategy(t, "all");
        h.due("way: no steps()", h.x().way(0, 0), -1);
        h.due("search: no STATES", h.x().search(t, 0), -1);
    }

    private static void plans() {
        House h = new House("plans").with(BAG + "rl p : a => b . rl all : a => c . rl x : b => c .");
        int t = h.term("a");
        String[] bad = {"@", "@zz", "p @p", "p ; @", "p | @| p", "( p @", "( @)", "not @p", "not ( p @", "one @", "@* p", "p @)", "p ; @.", "p @\001", "p; @", "@)"};
        for (String text : bad) {
            int place = text.indexOf('@');
            String plan = text.replace("@", "");
            boolean word = plan.startsWith("p;");
            h.due("plan " + text, h.strategy(t, plan), -11);
            h.due("place of " + text, h.x().fault(0), word ? 0 : place);
        }
        h.due("a LABEL like a word of plans", answers(h, "a", "all"), "b; c");
        t = h.term("a");
        StringBuilder plan = new StringBuilder("x");
        for (int k = 1; k < 60; k++) {
            plan.append(" *");
        }
        h.due("60 words", h.strategy(t, plan.toString()), 1);
        h.due("61 words", h.strategy(t, plan + " *"), -12);
        h.due("place", h.x().fault(0), 120);
        h.due("61 words, the last one wrong", h.strategy(t, plan + " x"), -11);
        StringBuilder deep = new StringBuilder();
        for (int k = 0; k < 29; k++) {
            deep.append("( ");
        }
        deep.append("p ");
        for (int k = 0; k < 29; k++) {
            deep.append(") ");
        }
        h.due("29 deep", h.strategy(t, deep.toString()), 1);
        StringBuilder nots = new StringBuilder("p");
        for (int k = 0; k < 19; k++) {
            nots.insert(0, "not ( ").append(" )");
        }
        h.due("19 nots", h.strategy(t, nots.toString()), 0);
        h.feed("p");
        h.due("BAD", h.x().strategy(99), -1);
        h.due("the tape stays", h.x().strategy(t), 1);
    }

    private static String digits(int number) {
        StringBuilder text = new StringBuilder("t ( ");
        for (int k = 0; k < number / 10; k++) {
            text.append("s ");
        }
        text.append("0 , ");
        for (int k = 0; k < number % 10; k++) {
            text.append("s ");
        }
        return text + "0 )";
    }

    private static void limits() {
        String counter = "sort N S B T . subsort T < B . op 0 : -> N . op s_ : N -> N . op t : N N -> S . op t : N N B -> S . op none : -> B . op __ : B B -> B [ assoc comm id none ] ."
                + " op a : -> T . op b : -> T . op c : -> T . op d : -> T . op e : -> T . op g : -> T . var N M : N . var B C D : B . ";
        House h = new House("limits").with(counter + "rl u : t ( N , s M ) => t ( N , M ) . rl v : t ( s N , 0 ) => t ( N , s s s s s s s s s 0 ) .");
        h.due("100 states", h.x().states(h.term(digits(99))), 100);
        h.due("120 states", h.x().states(h.term("t ( " + digits(110).substring(4).replace("0 , 0", "0 , s s s s s s s s s 0"))), 120);
        h.due("121 states", h.x().states(h.term("t ( s s " + digits(100).substring(4))), -22);
        h.due("RESULTS stay", h.x().count(8), 120);
        h.due("the latest STOP", h.x().count(9), 2);
        String six = " , a b c d e g )";
        h.with(counter + "rl u : t ( N , s M , B ) => t ( N , M , B ) . rl v : t ( s N , 0 , B ) => t ( N , s s s s s s s s s 0 , B ) .");
        int p = h.term("t ( N , M , B C )");
        h.due("93 states", h.x().states(h.term(digits(92).replace(" )", six))), 93);
        h.due("5,952 MATCHERS", h.x().law(0, p, 0), 1);
        h.due("94 states", h.x().states(h.term(digits(93).replace(" )", six))), 94);
        h.due("6,016 MATCHERS", h.x().law(0, p, 0), -1004);
        h.due("P of all STATES first", h.x().law(1, p, 0), -1004);
        h.due("STOP", h.x().count(9), 4);
        h.due("search lists up to the first", h.x().search(p, 0), 0);
        int wide = h.term("t ( N , M , B C D )");
        h.due("a list too long", h.x().search(wide, 0), -22);
        h.due("a list too long", h.x().law(3, h.term("t ( N , M , B )"), wide), -1002);
        String ways = "sort T L S . subsort T < L . op nil : -> L . op __ : L L -> L [ assoc id nil ] . op a : -> T . op b : -> T . op go : -> S . op k : L L L -> S ."
                + " var L M K X Y Z : L . rl r : go => k ( L , M , K ) if L X := a b a b a# /\\ M Y := a b a b /\\ K Z := a .";
        h.with(ways.replace("#", ""));
        h.due("60 steps", h.x().steps(h.term("go")), 60);
        h.due("and answers", h.strategy(0, "all"), 60);
        h.with(ways.replace("#", " b"));
        h.due("70 steps", h.x().steps(h.term("go")), -22);
        h.due("and answers", h.strategy(0, "all"), -22);
        h.with(ways.replace("#", "") + " op h : -> S . rl s : h => go .");
        h.due("61 answers", h.strategy(h.term("h"), "( s | s ; r ) ; idle | s ; r"), -22);
        h.due("60 answers", h.strategy(h.term("h"), "s ; r"), 60);
    }
}
