/** Promises 16 and 17, 3 MATCHERS, and STOPS 2, 3, 4 of a list: each sentence that names an edge. */
final class MatchEdgesTest {
    private static final House H = new House("edges of matchers");
    /** Rows of n cost no DEALS, but have as many matchers with one term as they have variables. */
    private static final String FREE = "sort A K . op e : -> A . op a : -> A . op b : -> A . op c : -> A . op _ _ : A A -> A [ id e ] . op k : A A A -> K . op o : -> K . op m : K K -> K [ comm ] ."
            + " var P Q R S T U V W X Y A B C D E F G H : A . var K L : K . ";
    private static final String FIVE = "P Q R S T", OTHER_FIVE = "U V W X Y", EIGHT = "A B C D E F G H";
    private static final String BAG = "sort Tok Bag W . subsort Tok < Bag . op none : -> Bag . op _ _ : Bag Bag -> Bag [ assoc comm id none ] . op _;_ : Bag Bag -> Bag [ assoc ] . op a : -> Tok . op b : -> Tok . op c : -> Tok ."
            + " op d : -> Tok . op g : -> Tok . op h : -> Tok . op w : Bag -> Tok . op v : Bag Bag -> W . op o : -> W . var T U : Tok . var B C D : Bag . var X : W . ";

    public static void main(String[] args) {
        longest();
        wide();
        deals();
        dealsAnew();
        whichFirst();
        refused();
        bounds();
        within();
        sortsOfVariables();
        System.exit(House.ending());
    }

    /** "A list has 200 at most"; STOP 2 "a list is too long". */
    private static void longest() {
        H.with(FREE);
        int p = H.term("k ( " + FIVE + " , " + OTHER_FIVE + " , " + EIGHT + " )");
        int t = H.term("k ( a , b , c )");
        H.due("5 times 5 times 8", H.x().match(p, t, false), 200);
        H.due("RESULTS", H.x().count(8), 200);
        H.due("the last one", H.x().bound(199, 0), 2);
        H.due("none behind it", H.x().bound(200, 0), -1);
        // of m in both orders: 200 with the first for k, none or one with the second
        int comm = H.term("m ( k ( " + FIVE + " , " + OTHER_FIVE + " , " + EIGHT + " ) , L )");
        H.due("200 and none", H.x().match(comm, H.term("m ( k ( a , b , c ) , o )"), false), 200);
        int one = H.term("m ( k ( a , b , c ) , k ( e , e , e ) )");
        H.stopped("200 and one", () -> H.x().match(comm, one, false), 2);
        H.due("RESULTS of the latest that was not stopped", H.x().count(8), 200);
    }

    /** "It is WIDE, if T, or a TERM in it, has a row of more than 6 of an assoc OPERATOR that is in P." */
    private static void wide() {
        H.with(BAG);
        int six = H.term("a a a b b c");
        int seven = H.term("a a a b b c c");
        int row = H.term("T U");
        int inner = H.term("w ( T U )");
        int other = H.term("T ; U");
        H.due("6", H.x().match(row, six, true) > 0 ? 1 : 0, 1);
        H.stopped("7", () -> H.x().match(row, seven, true), 3);
        H.stopped("7, not within", () -> H.x().match(row, seven, false), 3);
        H.due("of a variable nothing is asked", H.x().match(H.term("B"), seven, false), 1);
        int deep = H.term("w ( a a a b b c c )");
        H.stopped("in T", () -> H.x().match(inner, deep, false), 3);
        H.stopped("in T, whatever P's OPERATOR is", () -> H.x().match(row, deep, false), 3);
        int deeper = H.term("w ( w ( a a a b b c c ) ) a");
        H.stopped("deep in T", () -> H.x().match(row, deeper, true), 3);
        H.due("its OPERATOR is not in P", H.x().match(other, deep, false), 0);
        H.due("its OPERATOR is not in P", H.x().match(H.term("w ( B )"), deep, false), 1);
        H.with(BAG);
        int p = H.term("v ( B ; C , D )");
        H.due("6 of another one", H.x().match(p, H.term("v ( a ; a ; a ; a ; a ; a , d )"), false), 5);
        int t = H.term("v ( a ; a ; a ; a ; a ; a ; a , d )");
        H.stopped("7 of it", () -> H.x().match(p, t, false), 3);
        int mixed = H.term("v ( a ; a , a a a a a a a )");
        H.due("7 of one that is not in P", H.x().match(p, mixed, false), 1);
        int both = H.term("v ( B ; C , T U )");
        H.stopped("of one that is in P", () -> H.x().match(both, mixed, false), 3);
        int ground = H.term("v ( B , a b )");
        H.stopped("of one without variables in P", () -> H.x().match(ground, mixed, false), 3);
    }

    /** STOP 4: "more than 300,000 DEALS (of all lists that were asked, together ..)". */
    private static void deals() {
        String text = "sort A K . op a : -> A . op b : -> A . op _ _ : A A -> A [ assoc comm ] . op _+_ : A A -> A [ assoc comm ] . op _;_ : A A -> A [ assoc ] . op _|_ : K K -> K [ comm ] . op k : A -> K . op l : A -> K . op o : -> K ."
                + " rl r : l ( a ) => l ( b ) . var A B C D E : A . var K : K . ";
        H.with(text);
        // 5 to the power 5, 2 for each of 5 rows, 3 to the power 1 (there is no + in T): 300,000
        int p = H.term("l ( A + B ) | o | o | o | K | k ( A B C D )");
        int t = H.term("o | k ( a a a a a )");
        H.due("300,000", H.x().match(p, t, false), 0);
        H.due("300,000, within", H.x().match(p, t, true), 0);
        int inRow = H.term("l ( A ; B ) | o | o | o | K | k ( A B C D )");
        H.stopped("400,000: 1 dealt to 4 in a row", () -> H.x().match(inRow, t, false), 4);
        int three = H.term("l ( A + B + C ) | o | o | o | K | k ( A B C D )");
        H.stopped("400,000: 4 to the power 1", () -> H.x().match(three, t, false), 4);
        int longer = H.term("o | k ( a a a a a a )");
        H.stopped("1,500,000: 5 to the power 6", () -> H.x().match(p, longer, false), 4);
        int turned = H.term("l ( A + B ) | o | o | o | o | K | k ( A B C D )");
        H.stopped("600,000: 2 to the power 6", () -> H.x().match(turned, t, false), 4);
        int wider = H.term("l ( a + b ) | k ( a a a a a )");
        H.stopped("900,000: 3 to the power 2", () -> H.x().match(p, wider, false), 4);
        // "of all lists that were asked, together": those of law() for two STATES; each call begins anew
        H.with(text);
        H.due("STATES", H.x().states(H.term("l ( a ) | k ( a a a a a )")), 2);
        int half = H.term("l ( A + B ) | o | o | K | k ( A B C D )");
        H.due("150,000 twice", H.x().law(1, half, 0), 1);
        H.due("150,000 twice, again", H.x().law(1, half, 0), 1);
        int most = H.term("K | o | o | o | K | k ( A B C D )");
        H.due("100,000 twice", H.x().law(1, most, 0), 1);
        H.due("100,000 twice for P; for Q, too", H.x().law(3, most, most), -1004);
        H.due("the latest STOP", H.x().count(9), 4);
        H.due("50,000 twice for P, 100,000 twice for Q", H.x().law(3, H.term("o | o | o | K | k ( A B C D )"), most), 1);
        H.due("200,000 twice", H.x().law(1, H.term("K | o | o | o | o | K | k ( A B C D )"), 0), -1004);
        // "of another KIND none is, and nothing is listed"
        int other = H.term("( A B C D A B C D ) + A + B + C + D");
        int same = H.term("k ( ( A B C D A B C D ) + A + B + C + D )");
        H.due("354,294 of its KIND", H.x().search(same, 0), -24);
        H.due("search()", H.x().search(other, 0), -2);
        H.due("always", H.x().law(0, other, 0), -10);
        H.due("never", H.x().law(1, other, 0), 1);
        H.due("leads", H.x().law(3, half, other), 1);
        int twice = H.term("K | o | o | o | o | K | k ( A B C D )");
        H.due("search() asks 200,000 for each that is not so", H.x().search(twice, 0), -24);
        H.due("from the last on", H.x().search(twice, 1), -2);
    }

    /** What is counted is that of this T, whatever T an earlier module had in its place. */
    private static void dealsAnew() {
        House h = new House("deals anew");
        for (int round = 0; round < 3; round++) {
            h.module(BAG);
            int p = h.term("T T T T T T T T");
            h.due("six", h.x().match(p, h.term("a a a a a a"), false), -24);
            h.module(BAG);
            h.due("the same pattern", h.term("T T T T T T T T"), p);
            h.term("w ( w ( w ( w ( a ) ) ) )");
            h.due("two", h.x().match(p, h.term("a a"), false), 0);
        }
    }

    private static void whichFirst() {
        H.with(BAG);
        int many = H.term("T T T T T T T T");
        int seven = H.term("a a a b b c c");
        H.stopped("WIDE ahead of DEALS", () -> H.x().match(many, seven, false), 3);
        int six = H.term("a b c d g h");
        H.stopped("DEALS ahead of the list", () -> H.x().match(many, six, false), 4);
        int long3 = H.term("B C D");
        H.stopped("a list too long, of 4,096 DEALS", () -> H.x().match(long3, six, false), 2);
    }

    /** match: "BAD: none such; another KIND." */
    private static void refused() {
        H.with(BAG);
        int p = H.term("T B");
        int t = H.term("a b");
        int o = H.term("o");
        int x = H.term("X");
        H.due("match", H.x().match(p, t, false), 2);
        for (int h : new int[] {-1, 4, 200, Integer.MIN_VALUE, Integer.MAX_VALUE}) {
            H.refused("match(" + h + ", t)", () -> H.x().match(h, t, false), -1);
            H.due("match(p, " + h + ")", H.x().match(p, h, true), -1);
        }
        H.with(BAG);
        H.term("T B");
        H.term("a b");
        H.term("o");
        H.term("X");
        H.x().match(p, t, false);
        H.refused("another KIND", () -> H.x().match(p, o, false), -1);
        H.refused("another KIND", () -> H.x().match(o, p, true), -1);
        H.refused("another KIND of a variable", () -> H.x().match(x, t, false), -1);
        H.due("its KIND", H.x().match(x, o, false), 1);
        H.due("no matcher is a list, too", H.x().match(o, H.term("v ( a , b )"), false), 0);
        H.due("RESULTS", H.x().count(8), 0);
        H.due("bound", H.x().bound(0, 0), -1);
    }

    /** bound: "NONE: nothing there (also of v .. 59 that is no variable). BAD: no such MATCHER, v not - 2 .. 59; the RESULTS are none. FULL." */
    private static void bounds() {
        H.with(BAG + "rl r : a => b .");
        H.due("no RESULTS", H.x().bound(0, 0), -1);
        int p = H.term("T B");
        int t = H.term("a b c");
        H.x().match(p, t, true);
        int many = H.x().count(8);
        H.due("matchers", many, 12);
        for (int v = 0; v < 60; v++) {
            boolean there = v == 0 || v == 2;
            int got = H.x().bound(0, v);
            H.due("bound(0, " + v + ")", got >= 0 ? 0 : got, there ? 0 : -2);
        }
        for (int v : new int[] {-3, 60, 61, Integer.MIN_VALUE, Integer.MAX_VALUE}) {
            H.refused("bound(0, " + v + ")", () -> H.x().bound(0, v), -1);
        }
        for (int i : new int[] {-1, 12, 200, Integer.MIN_VALUE, Integer.MAX_VALUE}) {
            H.due("bound(" + i + ", 0)", H.x().bound(i, 0), -1);
            H.due("bound(" + i + ", 59)", H.x().bound(i, 59), -1);
        }
        H.with(BAG + "rl r : a => b .");
        H.term("T B");
        H.term("a b c");
        H.x().match(0, 1, false);
        H.due("not within: nothing beside", H.x().bound(0, -1), -2);
        H.due("not within: nothing beside", H.x().bound(0, -2), -2);
        H.fillHandles(1, 200);
        H.refused("FULL", () -> H.x().bound(0, 0), -3);
        H.refused("NONE ahead of FULL", () -> H.x().bound(0, 1), -2);
        H.refused("NONE ahead of FULL", () -> H.x().bound(0, -1), -2);
        H.refused("BAD ahead of FULL", () -> H.x().bound(0, 60), -1);
        H.refused("BAD ahead of FULL", () -> H.x().bound(3, 0), -1);
        H.x().forget();
        H.due("MATCHERS outlast handles", H.x().bound(0, 0), 0);
        H.x().forget();
        // "the RESULTS are none": of steps(), states(), strategy()
        H.with(BAG + "rl r : a => b .");
        int a = H.term("a");
        H.x().steps(a);
        H.refused("of steps()", () -> H.x().bound(0, 0), -1);
        H.x().states(a);
        H.refused("of states()", () -> H.x().bound(0, 0), -1);
        H.strategy(a, "r");
        H.refused("of strategy()", () -> H.x().bound(0, 0), -1);
        H.x().match(a, a, false);
        H.due("a matcher without variables", H.x().bound(0, 0), -2);
        H.module("");
        H.due("RESULTS go with the module", H.x().bound(0, 0), -1);
    }

    /** WITHIN: "of one at least: of comm ones any, else side by side; with what is ahead and behind it (of comm ones: behind)". */
    private static void within() {
        House h = new House("within").with(BAG);
        h.due("all of it: nothing beside", h.matchers("a b", "a b", true, 0), "");
        h.due("one left", h.matchers("a b", "b a c", true, 0), " >c");
        h.due("more left, as a row", h.matchers("a b", "b a c c d", true, 0), " >c c d");
        h.due("one at least: not none", h.matchers("B B", "a b", true, 3), "");
        h.due("one", h.matchers("B C", "a", true, 4), "-, -, none, a; -, -, a, none");
        h.due("another OPERATOR: the whole", h.matchers("T B", "w ( a b )", true, 3), "w ( a b ), -, none");
        h.due("P is no row", h.matchers("T", "a b", true, 1), "");
        h.due("P is a variable for all", h.matchers("B", "a b", true, 3), "-, -, a b");
        h.with(BAG);
        h.due("side by side", h.matchers("a ; b", "c ; a ; b ; d", true, 0), " <c >d");
        h.due("not side by side", h.matchers("a ; b", "a ; c ; b", true, 0), "");
        h.due("at the front", h.matchers("a ; b", "a ; b ; c ; d", true, 0), " >c ; d");
        h.due("at the end", h.matchers("a ; b", "c ; d ; a ; b", true, 0), " <c ; d");
        h.due("fewer ahead first", h.matchers("a ; b", "a ; b ; a ; b", true, 0), " >a ; b;  <a ; b");
        // one ahead is fewer than two, wherever its OPERATOR stands in ORDER
        h.due("fewer ahead first", h.matchers("a ; a", "c ; a ; a ; a", true, 0), " <c >a;  <c ; a");
        h.due("not within", h.matchers("a ; b", "a ; b ; c", false, 0), "");
    }

    /** "each of a LEAST SORT that is its sort, or below". */
    private static void sortsOfVariables() {
        House h = new House("sorts of variables").with("sort A B C . subsort A < B < C . op a : -> A . op b : -> B . op c : -> C . op f : A -> A . op k : C C C -> C . var A : A . var B : B . var C : C .");
        h.due("its sort, below it", h.matchers("k ( A , B , C )", "k ( a , b , c )", false, 3), "a, b, c");
        h.due("all below", h.matchers("k ( A , B , C )", "k ( a , a , a )", false, 3), "a, a, a");
        h.due("above it", h.matchers("k ( A , B , C )", "k ( b , b , b )", false, 3), "");
        h.due("above it", h.matchers("k ( A , B , C )", "k ( a , c , c )", false, 3), "");
        h.due("no LEAST SORT", h.matchers("C", "f ( b )", false, 3), "");
        h.due("a variable of a lower sort", h.matchers("B", "A", false, 3), "-, A, -");
        h.due("a variable of a higher sort", h.matchers("A", "B", false, 3), "");
    }
}
