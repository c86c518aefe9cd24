/** Promises 26 to 29, and 6 JUDGED AHEAD: each sentence that names an edge. */
final class JudgeEdgesTest {
    private static final House H = new House("edges of judging");

    public static void main(String[] args) {
        refused();
        oneLeast();
        joined();
        above();
        bags();
        lookedAt();
        places();
        mostPairs();
        openPairs();
        countedFirst();
        eachAnew();
        deepPairs();
        bothTogether();
        mostDeals();
        sizesOfWays();
        waysOfVariables();
        waysTurned();
        putApart();
        pairsTold();
        stopTold();
        System.exit(House.ending());
    }

    /** check: "BAD: another number"; witness: "BAD: another what, i below 0, of FALLING another one than 0; NONE: it does not fail (whatever i); BAD: i beyond those sorts. (In this order.)" */
    private static void refused() {
        int[] wild = {Integer.MIN_VALUE, -2, -1, 0, 1, 2, 3, 4, 5, Integer.MAX_VALUE};
        // a new object: all holds of a module of nothing
        for (int what : wild) {
            H.anew();
            H.due("check(" + what + ")", H.x().check(what), what == 0 || what == 1 ? 1 : -1);
            for (int i : wild) {
                boolean bad = what < 0 || what > 1 || i < 0 || (what == 1 && i != 0);
                H.due("witness(" + what + ", " + i + ")", H.x().witness(what, i), bad ? -1 : -2);
            }
            H.due("pairs(" + what + ")", H.x().pairs(what), what >= 0 && what <= 2 ? 0 : -1);
            H.due("pair(0, " + what + ")", H.x().pair(0, what), -1);
        }
        // both fail: three sorts for an OPERATOR of three HOLES
        H.with("sort A B C . subsort C < A B . op o : -> C . op k : A A C -> A . op k : B B C -> B . eq o = o .");
        H.due("check(0)", H.x().check(0), 0);
        H.due("check(1)", H.x().check(1), 0);
        for (int what : wild) {
            for (int i : wild) {
                boolean bad = what < 0 || what > 1 || i < 0 || (what == 1 && i != 0) || i > 3;
                H.due("witness(" + what + ", " + i + ")", H.x().witness(what, i), bad ? -1 : what == 1 ? 0 : i == 0 ? 1 : 2);
            }
        }
    }

    private static void least(String text, int... witness) {
        H.with(text);
        H.due(text, H.x().check(0), witness.length == 0 ? 1 : 0);
        for (int i = 0; i < witness.length; i++) {
            H.due(text + " witness " + i, H.x().witness(0, i), witness[i]);
        }
        H.due(text + " beyond", H.x().witness(0, Math.max(witness.length, 1)), witness.length == 0 ? -2 : -1);
    }

    /** "for all OPERATORS and rows of sorts of their KINDS that have rows of op above them, one SORT is below all others". */
    private static void oneLeast() {
        String sorts = "sort A B C D . subsort C < A B < D . ";
        least(sorts + "op a : -> A .");
        least(sorts + "op f : A -> A . op f : B -> A .");
        least(sorts + "op f : A -> A . op f : B -> B .", 0, 2);
        least(sorts + "op f : A -> D . op f : B -> B .");
        least(sorts + "op f : A -> A . op f : B -> B . op f : C -> D .", 0, 2);
        least(sorts + "op f : A -> A . op f : B -> B . op f : C -> C .");
        least(sorts + "op g : A -> A . op f : A A -> A . op f : B B -> B . op h : A -> A . op h : B -> B .", 1, 2, 2);
        least(sorts + "op f : A B -> A . op f : B A -> B .", 0, 2, 2);
        least(sorts + "op f : A B -> A [ comm ] . op f : B A -> B [ comm ] .", 0, 0, 1);
        least(sorts + "op f : A D -> A . op f : D B -> B .", 0, 0, 1);
        least(sorts + "op f : D A D -> A . op f : A D D -> B .", 0, 0, 0, 0);
        least("sort A B X . subsort X < A B . sort E . op f : E A -> A . op f : E B -> B .", 0, 3, 2);
        // HOLES of other KINDS, each in its place
        String kinds = "sort A B X . subsort X < A B . sort E . ";
        least(kinds + "op f : A E -> A . op f : B E -> B .", 0, 2, 3);
        least(kinds + "op f : E E A -> A . op f : E E B -> B .", 0, 3, 3, 2);
        least(kinds + "op f : A A E -> A . op f : B B E -> B .", 0, 2, 2, 3);
        least(kinds + "op f : A E B -> A . op f : B E A -> B .", 0, 2, 3, 2);
        least(kinds + "op f : A E A -> A . op f : B E B -> B . op f : X E X -> X .");
        // by sorts as they are told
        least("sort C2 A B C . subsort C C2 < A B . op f : A -> A . op f : B -> B .", 0, 0);
        least("sort A C2 B C . subsort C C2 < A B . op f : A A -> A . op f : B B -> B .", 0, 1, 1);
    }

    /** "of an assoc one (behind that), for three sorts a, b, c: both ways to join them have the same LEAST SORT, or none". */
    private static void joined() {
        String sorts = "sort A B . subsort A < B . ";
        least(sorts + "op f : A A -> A [ assoc ] .");
        least(sorts + "op f : A A -> B [ assoc ] .");
        least(sorts + "op f : B B -> B [ assoc ] . op f : A A -> A [ assoc ] .");
        least(sorts + "op f : B A -> A [ assoc ] .", 0, 0, 1, 0);
        least(sorts + "op f : A B -> A [ assoc ] .", 0, 0, 1, 0);
        least(sorts + "op f : A B -> A .");
        least(sorts + "op f : B B -> B [ assoc ] . op f : B A -> A [ assoc ] .");
        least(sorts + "op f : B B -> B [ assoc ] . op f : A A -> A [ assoc ] . op f : A B -> A [ assoc ] .");
        least(sorts + "op f : B B -> A [ assoc ] . op f : A A -> B [ assoc ] .");
        least(sorts + "op f : B B -> B [ assoc ] . op f : A B -> A [ assoc ] . op f : A A -> A [ assoc ] .");
        least(sorts + "op f : B B -> B [ assoc ] . op f : B A -> A [ assoc ] . op f : A A -> B [ assoc ] .");
        // both fail: two sorts are told behind all that is joined of an earlier OPERATOR, ahead of it of the same one
        String more = "sort A B C . subsort C < A B . ";
        least(more + "op f : A C -> A [ assoc ] . op f : C B -> B [ assoc ] .", 0, 2, 2);
        least(more + "op g : A C -> A [ assoc ] . op f : A C -> A . op f : C B -> B .", 0, 0, 2, 2);
        least("sort X . " + sorts + "op f : A B -> A [ assoc ] .", 0, 1, 2, 1);
    }

    private static void falls(String module, String left, String right, boolean due) {
        H.with(module + " eq " + left + " = " + right + " .");
        H.due(left + " above " + right, H.x().check(1), due ? 1 : 0);
        H.due(left + " above " + right, H.x().witness(1, 0), due ? -2 : 0);
    }

    /** ABOVE: a TERM in the row, an OPERATOR told later, the first place where they are other ones. */
    private static void above() {
        String m = "sort N . op 0 : -> N . op 1 : -> N . op s_ : N -> N [ prec 1 ] . op f : N N -> N . op g : N N -> N . op k : N N N -> N . var X Y Z : N .";
        falls(m, "s X", "X", true);
        falls(m, "s s X", "X", true);
        falls(m, "s X", "s X", false);
        falls(m, "s X", "s s X", false);
        falls(m, "f ( X , Y )", "Y", true);
        falls(m, "1", "0", true);
        falls(m, "0", "1", false);
        falls(m, "0", "0", false);
        falls(m, "s 0", "1", true);
        falls(m, "1", "s 0", false);
        falls(m, "s 1", "1", true);
        falls(m, "f ( X , 0 )", "s X", true);
        falls(m, "f ( X , 0 )", "s s s X", true);
        falls(m, "f ( X , 0 )", "s 0", true);
        falls(m, "f ( X , 0 )", "1", true);
        falls(m, "s X", "f ( X , X )", false);
        falls(m, "g ( X , Y )", "f ( f ( X , Y ) , f ( Y , X ) )", true);
        falls(m, "g ( X , Y )", "f ( f ( X , Y ) , g ( Y , X ) )", false);
        // the same OPERATOR: s is above all in t's row, and at the first place where they are other ones s's is above t's
        falls(m, "f ( s X , Y )", "f ( X , Y )", true);
        falls(m, "f ( s X , Y )", "f ( X , s Y )", true);
        falls(m, "f ( s X , Y )", "f ( X , s s s Y )", true);
        falls(m, "f ( s X , Y )", "f ( X , f ( s X , Y ) )", false);
        falls(m, "f ( s X , Y )", "f ( X , f ( X , Y ) )", true);
        falls(m, "f ( X , s Y )", "f ( X , Y )", true);
        falls(m, "f ( X , s Y )", "f ( Y , X )", false);
        falls(m, "f ( X , s Y )", "f ( s X , Y )", false);
        falls(m, "f ( X , Y )", "f ( Y , X )", false);
        falls(m, "k ( X , s Y , Z )", "k ( X , Y , s Z )", true);
        falls(m, "k ( X , Y , s Z )", "k ( X , s Y , Z )", false);
        falls(m, "k ( X , X , s X )", "k ( X , X , X )", true);
        falls(m, "f ( f ( s X , Y ) , Z )", "f ( X , Z )", true);
        // "the left side is ABOVE the right one, and all T and U of its C"
        String[] c = {"f ( X , 0 ) = 0", "0 = f ( X , 0 )", "f ( X , 0 ) : N", "Y := f ( X , 0 )", "f ( Y , 0 ) := X", "0 = 0 /\\ f ( X , 0 ) = 0"};
        for (String part : c) {
            H.with(m + " eq g ( X , 0 ) = X if " + part + " .");
            H.due("a T or U below: " + part, H.x().check(1), part.contains("Y") ? 0 : 1);
            H.with(m + " eq s X = X if " + part + " .");
            H.due("a T or U that is not below: " + part, H.x().check(1), 0);
        }
        H.with(m + " eq s s X = X . oeq g ( X , Y ) = s X . rl r : 0 => g ( 0 , 0 ) . oeq s X = s s X . eq 0 = 1 .");
        H.due("the first that does not; rules are none", H.x().witness(1, 0), 2);
    }

    /** "if it is comm or assoc: without what is in both rows (each as often) something is left of s's, and each that is left of t's has one ABOVE it there". */
    private static void bags() {
        for (String attribute : new String[] {"comm", "assoc", "assoc comm"}) {
            String m = "sort N . op 0 : -> N . op 1 : -> N . op s_ : N -> N [ prec 1 ] . op _+_ : N N -> N [ " + attribute + " prec 2 ] . op h : N -> N . var X Y Z : N .";
            boolean assoc = attribute.contains("assoc");
            falls(m, "s X + Y", "X + Y", true);
            falls(m, "X + s Y", "Y + X", true);
            falls(m, "s X + Y", "X + X", true);
            falls(m, "s X + Y", "Y + Y", false);
            falls(m, "X + Y", "Y + X", false);
            falls(m, "s X + s Y", "X + s Y", true);
            falls(m, "s X + Y", "X + s Y", false);
            falls(m, "s s X + Y", "s X + Y", true);
            falls(m, "s X + 0", "X + s 0", false);
            falls(m, "s X + 1", "X + 0", true);
            falls(m, "s X + s X", "X + X", true);
            falls(m, "s X + X", "X + X", true);
            falls(m, "s X + Y", "s X + X", false);
            falls(m, "s s X + s X", "s X + X", true);
            falls(m, "s X + Y", "s X + Y", false);
            falls(m, "s X + s X", "s X + X", true);
            falls(m, "h ( X ) + Y", "s ( X + Y )", true);
            falls(m, "s X + Y", "h ( X )", false);
            if (assoc) {
                falls(m, "X + Y + Z", "X + Y", true);
                falls(m, "X + Y", "X + Y + Y", false);
                falls(m, "s X + Y", "X + X + X + Y", true);
                falls(m, "s X + Y", "X + X + Y + Y", false);
                falls(m, "X + X + Y", "X + Y", true);
                falls(m, "X + X + 0", "0 + 0 + X", false);
            }
        }
        // what was in both rows of one equation is in those of the next
        H.with("sort N . op s_ : N -> N [ prec 1 ] . op _+_ : N N -> N [ comm prec 2 ] . var X Y Z : N . eq Z + s X = Z + X . eq s X + s Y = X + Y . eq s X + s s X = X + s X . eq s Y + s X = Y + X .");
        H.due("all fall", H.x().check(1), 1);
        // the + is told behind s, h behind +: what is put into h falls, what is put into s does not
        falls("sort N . op s_ : N -> N . op _+_ : N N -> N [ comm ] . op h : N -> N . var X Y : N .", "h ( X ) + Y", "h ( X + Y )", false);
        falls("sort N . op s_ : N -> N . op h : N -> N . op _+_ : N N -> N [ comm ] . var X Y : N .", "h ( X ) + Y", "h ( X + Y )", true);
    }

    /** "when no OPERATOR of an equation is assoc, or has an id, no equation has a C, or is an oeq". */
    private static void lookedAt() {
        String m = "sort A . op e : -> A . op f : A -> A . op n : A A -> A [ id e ] . op c : A A -> A [ comm id e ] . op s : A A -> A [ assoc ] . op m : A A -> A [ comm ] . var X Y : A . ";
        String[] texts = {"", "eq f ( X ) = X .", "eq f ( X ) = m ( X , e ) .", "rl r : n ( X , Y ) => s ( X , Y ) if X = Y .", "eq f ( n ( X , Y ) ) = X .", "eq f ( X ) = n ( X , X ) .", "eq f ( c ( X , X ) ) = X .", "eq f ( X ) = s ( X , X ) .",
            "eq f ( X ) = f ( f ( s ( X , e ) ) ) .", "oeq f ( X ) = X .", "eq f ( X ) = X if X = X .", "eq f ( X ) = X if X : A .", "eq f ( X ) = X . eq f ( X ) = Y if Y := X .", "eq f ( X ) = X . oeq f ( e ) = e ."};
        int[] due = {0, 0, 0, 0, -2, -2, -2, -2, -2, -2, -2, -2, -2, -2};
        for (int k = 0; k < texts.length; k++) {
            H.with(m + texts[k]);
            for (int what = 0; what < 3; what++) {
                H.due("pairs(" + what + ") of " + texts[k], H.x().pairs(what), due[k]);
            }
            H.due("BAD ahead of NONE", H.x().pairs(3), -1);
            H.due("BAD ahead of NONE", H.x().pairs(-1), -1);
            H.due("pair", H.x().pair(0, 0), -1);
            H.due("no STOP", H.x().count(9), 0);
        }
        // an id that no row tells is an OPERATOR like others; so is what an id stands for by itself
        H.with(m + "eq f ( e ) = e . eq f ( n ( e , X ) ) = X .");
        H.due("n is not in f ( X )", H.x().pairs(0), 1);
    }

    private static void pairsOf(String text, int pairs, int apart, int open) {
        H.with(text);
        H.due(text, H.x().pairs(0), pairs);
        H.due(text + " apart", H.x().pairs(1), apart);
        H.due(text + " open", H.x().pairs(2), open);
        H.due(text + " no STOP", H.x().count(9), 0);
        H.due(text + " the last", H.x().pair(apart - 1, 0) >= 0 ? 1 : 0, apart > 0 ? 1 : 0);
        H.due(text + " none behind it", H.x().pair(apart, 0), -1);
    }

    /** "places of j's left side that are no variable (but the whole one, if i is above j, or is j and no comm OPERATOR stands in its left side)". */
    private static void places() {
        String m = "sort A . op a : -> A . op b : -> A . op f : A -> A . op g : A A -> A . op m : A A -> A [ comm ] . var X Y : A . ";
        pairsOf(m + "eq f ( X ) = a .", 0, 0, 0);
        pairsOf(m + "eq f ( X ) = a . eq f ( X ) = b .", 1, 1, 0);
        pairsOf(m + "eq f ( X ) = a . eq f ( X ) = a .", 1, 0, 0);
        pairsOf(m + "eq f ( f ( X ) ) = a .", 1, 1, 0);
        pairsOf(m + "eq f ( f ( f ( X ) ) ) = a .", 2, 2, 0);
        pairsOf(m + "eq g ( X , Y ) = a .", 0, 0, 0);
        pairsOf(m + "eq g ( f ( X ) , f ( Y ) ) = a . eq f ( X ) = b .", 2, 2, 0);
        pairsOf(m + "eq f ( X ) = b . eq g ( f ( X ) , f ( Y ) ) = a .", 2, 2, 0);
        pairsOf(m + "eq m ( a , b ) = a .", 1, 0, 0);
        pairsOf(m + "eq f ( m ( a , b ) ) = a .", 1, 0, 0);
        pairsOf(m + "eq f ( a ) = m ( a , b ) .", 0, 0, 0);
        pairsOf(m + "eq m ( X , Y ) = g ( X , Y ) .", 2, 1, 0);
        pairsOf(m + "eq a = b . eq f ( a ) = a . eq g ( a , a ) = a .", 3, 3, 0);
    }

    private static final String CHAIN = "sort A . op a : -> A . op c : -> A . op f_ : A -> A . var X : A . ";

    private static String chain(int many, int deep) {
        return ("eq " + "f ".repeat(deep) + "X = a . ").repeat(many);
    }

    /** "More than 4,000 PAIRS and OPEN ones together: STOP 2": 25 equations with 300 pairs as wholes, 25 times 148 inside. */
    private static void mostPairs() {
        String most = CHAIN + chain(24, 7) + chain(1, 5);
        H.with(most + "eq c = a .");
        H.due("4,000", H.x().pairs(0), 4000);
        H.due("no STOP", H.x().count(9), 0);
        H.due("OPEN", H.x().pairs(2), 0);
        int apart = H.x().pairs(1);
        H.due("the last that does not meet", H.x().pair(apart - 1, 0) >= 0 ? 1 : 0, 1);
        H.due("none behind it", H.x().pair(apart, 0), -1);
        H.dueTerm("its first", H.x().pair(apart - 1, 2), "a");
        H.dueTerm("its second", H.x().pair(apart - 1, 3), "f f f f a");
        H.dueTerm("that of the first", H.x().pair(0, 3), "f a");
        H.due("4,000 still", H.x().pairs(0), 4000);
        H.with(most + "eq c = a . eq c = a .");
        for (int what = 0; what < 3; what++) {
            H.due("4,001", H.x().pairs(what), -22);
        }
        H.due("the latest STOP", H.x().count(9), 2);
        H.due("pair", H.x().pair(0, 0), -22);
    }

    private static final String OPEN = "sort B C . subsort C < B . op b : -> B . op g : B -> B . op h : B -> B . op h : C -> C . var Y : B . var Z : C . eq g ( Z ) = b . eq g ( h ( Y ) ) = b . ";

    /** 31 equations with 465 pairs as wholes, 31 times 114 inside are 3,999; and one OPEN. */
    private static void openPairs() {
        String less = CHAIN + chain(21, 5) + chain(10, 4);
        pairsOf(OPEN, 0, 0, 1);
        // of each module anew
        H.anew();
        for (int round = 0; round < 3; round++) {
            H.module(OPEN + "op c : -> B . op d : -> B . eq c = b . eq c = d .");
            H.due("OPEN", H.x().pairs(2), 1);
            H.dueTerm("the one that does not meet", H.x().pair(0, 2), "d");
            H.due("OPEN still", H.x().pairs(2), 1);
            H.due("PAIRS", H.x().pairs(0), 1);
        }
        H.with(less + OPEN);
        H.due("3,999 and one OPEN", H.x().pairs(0), 3999);
        H.due("OPEN", H.x().pairs(2), 1);
        H.due("no STOP", H.x().count(9), 0);
        H.with(less + OPEN + "eq c = a . eq c = a .");
        H.due("4,000 and one OPEN", H.x().pairs(0), -22);
        H.with(CHAIN + chain(24, 7) + chain(1, 5) + OPEN);
        H.due("4,000 and one OPEN", H.x().pairs(2), -22);
        H.with(OPEN + CHAIN + chain(24, 7) + chain(1, 5));
        H.due("one OPEN and 4,000", H.x().pairs(2), -22);
    }

    /** "a PAIR counts ahead of all that it makes": the last one would be too big. */
    private static void countedFirst() {
        String big = "op t__ : A A -> A . op k : A -> A . op l : A -> A . op n : A A A -> A . eq k ( X ) = n ( X , X , X ) . eq l ( k ( " + "t a ".repeat(6) + "a ) ) = a .";
        H.with(CHAIN + big);
        H.due("41", H.x().pairs(0), -26);
        H.with(CHAIN + big.replace("l ( k ( " + "t a ".repeat(6) + "a ) )", "k ( " + "t a ".repeat(6) + "a )"));
        H.due("40", H.x().pairs(0), 1);
        // too big ahead of being changed; j's right side too big; both of 40
        String t = "t a ".repeat(15);
        for (int more = 8; more <= 9; more++) {
            H.with(CHAIN + "op t__ : A A -> A . op k : A -> A . op l_ : A -> A . eq k ( X ) = l " + t + "a . eq " + "l ".repeat(more) + "k ( a ) = a .");
            H.due("32 and " + more, H.x().pairs(0), more == 8 ? 1 : -26);
        }
        H.with(CHAIN + "op t__ : A A -> A . op k : A -> A . op n : A A A -> A . eq k ( " + "t a ".repeat(6) + "a ) = a . eq k ( X ) = n ( X , X , X ) .");
        H.due("40 of j's right side", H.x().pairs(0), 1);
        H.with(CHAIN + "op t__ : A A -> A . op k : A -> A . op n : A A A -> A . eq k ( f " + "t a ".repeat(6) + "a ) = a . eq k ( X ) = n ( X , X , X ) .");
        H.due("43 of j's right side", H.x().pairs(0), -26);
        H.with(CHAIN + chain(21, 5) + chain(10, 4) + big);
        H.due("the 4,000th", H.x().pairs(0), -26);
        H.with(CHAIN + chain(24, 7) + chain(1, 5) + big);
        H.due("the 4,001st", H.x().pairs(0), -22);
    }

    private static String counter(String t, int number) {
        return t + " ( " + "s ".repeat(number / 100) + "0 , " + "s ".repeat(number / 10 % 10) + "0 , " + "s ".repeat(number % 10) + "0 )";
    }

    private static final String COUNTERS = "sort N T . op 0 : -> N . op s_ : N -> N . op t : N N N -> T . op w : N N N -> T . op c : -> T . var X Y Z : N . " + counting("t") + counting("w");

    private static String counting(String t) {
        return "eq # ( X , Y , s Z ) = # ( X , Y , Z ) . eq # ( X , s Y , 0 ) = # ( X , Y , s s s s s s s s s 0 ) . eq # ( s X , 0 , 0 ) = # ( X , s s s s s s s s s 0 , s s s s s s s s s 0 ) . ".replace("#", t);
    }

    /** "For each PAIR STEPS, MATCHERS, FILLED and what came to REST begin anew": 15 with 600 STEPS and MATCHERS and 2,994 FILLED each. */
    private static void eachAnew() {
        H.with(COUNTERS + ("eq c = " + counter("t", 600) + " . ").repeat(6));
        H.due("15 PAIRS", H.x().pairs(0), 15);
        H.due("that all meet", H.x().pairs(1), 0);
        H.due("no STOP", H.x().count(9), 0);
        H.due("STEPS are not told", H.x().count(10), 0);
        H.with(COUNTERS + ("eq c = " + counter("t", 601) + " . ").repeat(2));
        H.due("601 STEPS", H.x().pairs(0), -21);
    }

    /** Both TERMS of a PAIR are 0 deep: of g each number less is one deeper. */
    private static void deepPairs() {
        for (int many = 59; many <= 62; many++) {
            String g = "g ( " + "s ".repeat(many / 10) + "0 , " + "s ".repeat(many % 10) + "0 )";
            String text = "sort N T . op 0 : -> N . op s_ : N -> N . op g : N N -> T . op k : T -> T . op ok : -> T . op c : -> T . var N M : N . eq g ( N , s M ) = k ( g ( N , M ) ) . eq g ( s N , 0 ) = k ( g ( N , s s s s s s s s s 0 ) ) ."
                    + " eq g ( 0 , 0 ) = ok . eq k ( ok ) = ok . ";
            H.with(text + "eq c = " + g + " . eq c = ok .");
            H.due("the second, " + many, H.x().pairs(0), many <= 60 ? 1 : -25);
            H.with(text + "eq c = ok . eq c = " + g + " .");
            H.due("the first, " + many, H.x().pairs(1), many <= 60 ? 0 : -25);
            H.due("as in a call", H.x().reduce(H.term(g)), many <= 60 ? 1 : -25);
        }
    }

    /** Both TERMS of a PAIR are REDUCED in one count. */
    private static void bothTogether() {
        H.with(COUNTERS + "eq c = " + counter("t", 300) + " . eq c = " + counter("w", 300) + " . eq c = " + counter("t", 300) + " .");
        H.due("300 and 300", H.x().pairs(0), 3);
        H.due("that do not meet", H.x().pairs(1), 2);
        H.dueTerm("j's right side's first", H.x().pair(0, 2), "w ( 0 , 0 , 0 )");
        H.dueTerm("then the other", H.x().pair(0, 3), "t ( 0 , 0 , 0 )");
        H.with(COUNTERS + "eq c = " + counter("t", 300) + " . eq c = " + counter("w", 301) + " .");
        H.due("301 and 300", H.x().pairs(0), -21);
    }

    /** "DEALS do not; in judging PAIRS 3,000,000": 12 left sides of comm rows, each a PAIR with itself, whose z is asked of all equations: 250,000. */
    private static void mostDeals() {
        int[] rows = {17, 16, 15, 14, 11, 11, 6, 6, 2, 2, 2, 1};
        for (int more = 0; more < 2; more++) {
            StringBuilder text = new StringBuilder("sort A . op _ _ : A A -> A [ comm ] . op z : -> A . op c : -> A . op d : -> A . ");
            StringBuilder equations = new StringBuilder("eq c = z . eq d = z . ");
            int sum = 2;
            for (int k = 0; k < rows.length; k++) {
                text.append("op b").append(k).append(" : -> A . ");
                equations.append("eq ").append(("b" + k + " ").repeat(rows[k] + 1)).append("= ").append(k == 11 && more == 1 ? "c" : "z").append(" . ");
                sum += 1 << rows[k];
            }
            H.due("DEALS of z", sum, 250000);
            H.with(text.toString() + equations);
            H.due(more == 0 ? "3,000,000" : "3,000,001", H.x().pairs(0), more == 0 ? 12 : -24);
            H.due("that do not meet", H.x().pairs(1), more == 0 ? 0 : -24);
            H.due("the latest STOP", H.x().count(9), more == 0 ? 0 : 4);
        }
    }

    /**
     * "both are made as they are by then (.. STOP 6)". The 151st two of one way cannot come: two whose rows are looked
     * at become one, which they were not until then, and each is one of the TERMS in both left sides by now; so the
     * rows that are looked at have less than 80 TERMS, no more than those of both left sides.
     */
    private static void sizesOfWays() {
        String m = "sort A . op a : -> A . op u_ : A -> A [ prec 1 ] . op __ : A A -> A [ prec 2 ] . op k : A A -> A . op q : A A -> A . var X Y Z : A . ";
        String nineteen = "a ".repeat(10);
        pairsOf(m + "eq q ( X , k ( X , u X ) ) = a . eq q ( " + nineteen + ", k ( Y , Z ) ) = a .", 1, 0, 0);
        H.with(m + "eq q ( X , k ( X , X ) ) = a . eq q ( u " + nineteen + ", k ( Y , Z ) ) = a .");
        H.due("41", H.x().pairs(0), -26);
        H.with(m + "eq q ( u " + nineteen + ", k ( Y , Z ) ) = a . eq q ( X , k ( X , X ) ) = a .");
        H.due("41 of the second", H.x().pairs(0), -26);
        pairsOf(m + "eq q ( " + nineteen + ", k ( Y , Z ) ) = a . eq q ( X , k ( X , u X ) ) = a .", 1, 0, 0);
        // in another order k is made ahead of what is too big
        pairsOf(m + "eq q ( k ( X , X ) , X ) = a . eq q ( k ( Y , Z ) , u " + nineteen + ") = a .", 1, 0, 0);
        // 30 places inside the first, of both; the whole of the second
        String long40 = "u ".repeat(31);
        pairsOf(m + "eq " + long40 + "X = a . eq " + long40 + "a = a .", 61, 60, 0);
    }

    /** "A variable that is in the TERM: no way. Else ..": sorts, and OPEN. */
    private static void waysOfVariables() {
        String m = "sort A B C D E . subsort C < A B < D . op a : -> A . op c : -> C . op d : -> D . op e : -> E . op f : D -> D . op g : D -> D . op g : C -> C . op h : D -> D . op h : A -> A . op k : D D -> D . op r : E -> E . var A : A . var B : B . var C : C . var D F : D . ";
        // a TERM with a LEAST SORT that is the variable's, below it, not so; OPEN by a row of op
        pairsOf(m + "eq f ( A ) = a . eq f ( a ) = d .", 1, 1, 0);
        pairsOf(m + "eq f ( A ) = a . eq f ( c ) = d .", 1, 1, 0);
        pairsOf(m + "eq f ( A ) = a . eq f ( d ) = d .", 0, 0, 0);
        pairsOf(m + "eq f ( A ) = a . eq f ( f ( D ) ) = d .", 2, 2, 0);
        pairsOf(m + "eq f ( A ) = a . eq f ( h ( D ) ) = d .", 0, 0, 1);
        pairsOf(m + "eq f ( A ) = a . eq f ( h ( A ) ) = d .", 1, 1, 0);
        pairsOf(m + "eq f ( C ) = a . eq f ( h ( A ) ) = d .", 0, 0, 0);
        pairsOf(m + "eq f ( A ) = a . eq f ( g ( D ) ) = d .", 0, 0, 1);
        pairsOf(m + "eq f ( B ) = a . eq f ( g ( B ) ) = d .", 0, 0, 1);
        // two variables: the lower sort, the first one, a sort below both, none
        pairsOf(m + "eq f ( A ) = a . eq f ( D ) = d .", 1, 1, 0);
        pairsOf(m + "eq f ( A ) = a . eq f ( B ) = d .", 0, 0, 1);
        pairsOf(m.replace("C < A B < D", "A B < D").replace("op g : C -> C . ", "") + "eq f ( A ) = a . eq f ( B ) = d .", 0, 0, 0);
        pairsOf(m + "eq f ( A ) = A . eq f ( D ) = h ( D ) .", 1, 1, 0);
        H.due("the lower one, the first", H.shown(H.x().pair(0, 3)), "A'");
        // the first sort is below both; the first row of op has the SORT
        pairsOf("sort C A B . subsort C < A B . op f : A -> A . op f : B -> A . op d : -> A . var A : A . var B : B . eq f ( A ) = d . eq f ( B ) = d .", 0, 0, 1);
        pairsOf("op h : C -> C . op h : A -> A . sort C A . subsort C < A . op f : A -> A . op d : -> A . var C : C . var A : A . eq f ( C ) = d . eq f ( h ( A ) ) = d .", 0, 0, 1);
        pairsOf("op h : A -> A . sort C A . subsort C < A . op f : A -> A . op d : -> A . var C : C . var A : A . eq f ( C ) = d . eq f ( h ( A ) ) = d .", 0, 0, 0);
        // a variable in the TERM, ahead of sorts
        pairsOf(m + "eq k ( D , D ) = a . eq k ( F , h ( F ) ) = d .", 0, 0, 0);
        pairsOf(m + "eq k ( A , A ) = a . eq k ( F , h ( F ) ) = d .", 0, 0, 0);
        pairsOf(m + "eq k ( A , A ) = a . eq k ( A , h ( D ) ) = d .", 0, 0, 1);
        pairsOf(m + "eq k ( D , D ) = a . eq k ( F , F ) = d .", 1, 1, 0);
    }

    /** "of a comm one first in this order, then with the second row turned round, each with all that follows". */
    private static void waysTurned() {
        String m = "sort A . op a : -> A . op b : -> A . op c : -> A . op f : A -> A . op m : A A -> A [ comm ] . op k : A A -> A . var X Y Z : A . ";
        pairsOf(m + "eq m ( X , a ) = b . eq m ( Y , Z ) = c .", 6, 2, 0);
        pairsOf(m + "eq f ( m ( a , b ) ) = a . eq f ( m ( a , b ) ) = b .", 3, 1, 0);
        pairsOf(m + "eq f ( m ( a , X ) ) = a . eq f ( m ( b , X ) ) = b .", 5, 1, 0);
        pairsOf(m + "eq k ( m ( X , Y ) , X ) = a .", 2, 0, 0);
        pairsOf(m + "eq k ( m ( X , Y ) , X ) = X .", 2, 0, 0);
        pairsOf(m + "eq k ( m ( X , Y ) , Z ) = X .", 2, 1, 0);
        // of the second way nothing stands for what it stood for in the first
        String n = "sort A . op a : -> A . op b : -> A . op c : -> A . op m : A A -> A [ comm ] . op k : A A A -> A . op l : A A -> A . var O P Q X Y Z : A . ";
        H.with(n + "eq m ( X , l ( Y , Z ) ) = k ( X , Y , Z ) . eq m ( l ( P , Q ) , O ) = k ( O , P , Q ) .");
        String[][] due = {{"0", "0", "k ( l ( Y' , Z' ) , Y , Z )", "k ( l ( Y , Z ) , Y' , Z' )"}, {"0", "1", "k ( l ( Y' , Z' ) , P , Q )", "k ( l ( P , Q ) , Y' , Z' )"}, {"1", "1", "k ( l ( P' , Q' ) , P , Q )", "k ( l ( P , Q ) , P' , Q' )"}};
        H.due("ways", H.x().pairs(0), 6);
        H.due("do not meet", H.x().pairs(1), 3);
        for (int i = 0; i < 3; i++) {
            H.due("i", H.x().pair(i, 0), Integer.parseInt(due[i][0]));
            H.due("j", H.x().pair(i, 1), Integer.parseInt(due[i][1]));
            H.due("the first of " + i, H.shown(H.x().pair(i, 2)), due[i][2]);
            H.due("the second of " + i, H.shown(H.x().pair(i, 3)), due[i][3]);
        }
    }

    /** "i's variables put apart from j's (30 more each; behind the others in ORDER; PRINTED with ' behind; in patterns they are variables like others)". */
    private static void putApart() {
        StringBuilder text = new StringBuilder("sort A B . subsort B < A . op a : -> A . op k : A A -> A . op f : A -> A . var");
        for (int k = 0; k < 29; k++) {
            text.append(" X").append(k);
        }
        text.append(" : A . var Last : B . eq f ( k ( Last , X0 ) ) = X0 . eq f ( k ( X1 , X28 ) ) = X1 .");
        H.with(text.toString());
        H.due("one", H.x().pairs(1), 1);
        H.due("j's right side", H.x().pair(0, 2), 0);
        H.due("variable 59", H.x().about(0, 3), 59);
        H.due("no OPERATOR", H.x().about(0, 2), -2);
        H.due("its sort", H.x().about(0, 1), 1);
        H.due("its KIND", H.x().about(0, 5), 0);
        H.due("SIZE", H.x().about(0, 0), 1);
        H.due("printed", H.shown(0), "Last'");
        H.due("i's right side", H.x().pair(0, 3), 1);
        H.due("variable 30", H.x().about(1, 3), 30);
        H.due("printed", H.shown(1), "X0'");
        int last = H.term("Last");
        int a = H.term("a");
        H.due("30 is behind 29", H.x().order(last, 1), -1);
        H.due("30 is ahead of 59", H.x().order(1, 0), -1);
        H.due("59 is ahead of OPERATORS", H.x().order(0, a), -1);
        H.due("its text is no term", H.term("Last'"), -16);
        H.due("a pattern", H.x().match(0, last, false), 1);
        H.due("bound to", H.x().order(H.x().bound(0, 59), last), 0);
        H.due("29 is not bound", H.x().bound(0, 29), -2);
        H.due("60", H.x().bound(0, 60), -1);
        H.due("of a lower sort", H.x().match(0, a, false), 0);
        H.due("a term", H.x().match(H.term("X5"), 0, false), 1);
        H.due("REDUCED", H.x().order(H.x().reduce(0), 0), 0);
        H.due("STATES", H.x().states(0), 1);
        H.due("is it", H.x().search(0, 0), 0);
    }

    /** pair: "BAD: none such. FULL." */
    private static void pairsTold() {
        String text = "sort A . op a : -> A . op b : -> A . op c : -> A . op d : -> A . op f : A -> A . var X : A . eq a = b . eq a = c . eq f ( a ) = d . eq a = d .";
        H.with(text);
        // 0 1, 0 2 inside, 0 3, 1 2 inside, 1 3, 3 2 inside
        int[][] due = {{0, 1}, {0, 2}, {0, 3}, {1, 2}, {1, 3}, {3, 2}};
        String[] first = {"c", "d", "d", "d", "d", "d"};
        String[] second = {"b", "f ( b )", "b", "f ( c )", "c", "f ( d )"};
        H.due("PAIRS", H.x().pairs(0), 6);
        H.due("do not MEET", H.x().pairs(1), 6);
        for (int i = 0; i < 6; i++) {
            H.due("i of " + i, H.x().pair(i, 0), due[i][0]);
            H.due("j of " + i, H.x().pair(i, 1), due[i][1]);
            H.dueTerm("the first of " + i, H.x().pair(i, 2), first[i]);
            H.dueTerm("the second of " + i, H.x().pair(i, 3), second[i]);
        }
        for (int i : new int[] {-1, 6, 4000, Integer.MIN_VALUE, Integer.MAX_VALUE}) {
            for (int what = 0; what < 4; what++) {
                H.due("pair(" + i + ", " + what + ")", H.x().pair(i, what), -1);
            }
        }
        for (int what : new int[] {-1, 4, Integer.MIN_VALUE, Integer.MAX_VALUE}) {
            H.refused("pair(0, " + what + ")", () -> H.x().pair(0, what), -1);
        }
        H.with(text);
        H.term("f ( a )");
        H.fillHandles(0, 199);
        H.due("the 200th", H.x().pair(5, 3), 199);
        H.refused("FULL", () -> H.x().pair(5, 3), -3);
        H.refused("FULL", () -> H.x().pair(0, 2), -3);
        H.refused("BAD ahead of FULL", () -> H.x().pair(6, 3), -1);
        H.due("i needs no handle", H.x().pair(5, 0), 3);
        H.due("j needs no handle", H.x().pair(5, 1), 2);
        H.due("a module goes with its PAIRS", H.module(""), 0);
        H.due("PAIRS", H.x().pairs(0), 0);
        H.due("pair", H.x().pair(0, 0), -1);
    }

    /** "(- 20 less a STOP.)" of pairs() and pair(), each time. */
    private static void stopTold() {
        H.with("sort A . op a : -> A . op b : -> A . op f : A -> A . var X : A . eq f ( a ) = f ( a ) . eq f ( X ) = a . op c : -> A . eq c = c .");
        H.term("a");
        H.due("states", H.x().states(0), 1);
        H.stopped("pairs(0)", () -> H.x().pairs(0), 1);
        H.stopped("pairs(1)", () -> H.x().pairs(1), 1);
        H.stopped("pairs(2)", () -> H.x().pairs(2), 1);
        for (int what = 0; what < 4; what++) {
            int one = what;
            H.stopped("pair(0, " + what + ")", () -> H.x().pair(0, one), 1);
        }
        H.stopped("pair(99, 0)", () -> H.x().pair(99, 0), 1);
        H.due("pairs(3)", H.x().pairs(3), -1);
        H.due("pair(-1, 0)", H.x().pair(-1, 0), -1);
        H.due("pair(0, 4)", H.x().pair(0, 4), -1);
        H.due("STATES still", H.x().way(0, 2), 0);
        // behind another STOP it is told anew; pair() may be the first to meet it
        H.with("sort A . op a : -> A . op f : A -> A . op g : A -> A . var X : A . eq f ( a ) = f ( a ) . eq f ( X ) = a . eq g ( a ) = g ( g ( a ) ) .");
        int deep = H.term("g ( a )");
        H.stopped("pair(0, 0)", () -> H.x().pair(0, 0), 1);
        H.stopped("reduce()", () -> H.x().reduce(deep), 5);
        H.stopped("pair(0, 3)", () -> H.x().pair(0, 3), 1);
        H.stopped("reduce()", () -> H.x().reduce(deep), 5);
        H.stopped("pairs(1)", () -> H.x().pairs(1), 1);
        H.due("another module", H.module("sort A . op a : -> A ."), 1);
        H.due("no STOP since the module", H.x().count(9), 0);
        H.due("PAIRS", H.x().pairs(0), 0);
    }
}
