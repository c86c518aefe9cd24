/** Promise 18: reduce; and the STOPS. */
final class ReduceTest {
    public static void main(String[] args) {
        simple();
        inOrder();
        conditions();
        rows();
        atRest();
        tooManySteps();
        tooLong();
        tooWide();
        tooManyDeals();
        tooDeep();
        tooBig();
        tooFull();
        System.exit(House.ending());
    }

    private static String times(String what, int n, String last) {
        StringBuilder text = new StringBuilder();
        for (int k = 0; k < n; k++) {
            text.append(what);
        }
        return text + last;
    }

    private static void simple() {
        House h = new House("simple").with("sort N . op 0 : -> N . op s_ : N -> N [ prec 15 ] . op _+_ : N N -> N . op _*_ : N N -> N [ prec 31 ] . var N M : N ."
                + " eq 0 + N = N . eq s N + M = s ( N + M ) . eq 0 * N = 0 . eq s N * M = M + N * M .");
        h.due("2 + 2", h.rest("s s 0 + s s 0"), "s s s s 0");
        h.due("2 * 3", h.rest("s s 0 * s s s 0"), "s s s s s s 0");
        h.due("a variable", h.rest("N"), "N");
        h.due("with variables", h.rest("s N + M"), "s ( N + M )");
        int t = h.term("s 0 + 0");
        h.due("a handle", h.x().reduce(t), 1);
        h.due("STEPS", h.x().count(10), 2);
        h.due("the old one stays", h.shown(t), "s 0 + 0");
        h.due("BAD", h.x().reduce(2), -1);
        h.due("BAD", h.x().reduce(-1), -1);
        h.due("at REST", h.shown(h.x().reduce(1)), "s 0");
        h.due("STEPS", h.x().count(10), 0);
    }

    private static void inOrder() {
        House h = new House("in order").with("sort A . op a : -> A . op b : -> A . op c : -> A . op f : A -> A . op g : A A -> A . op m : A A -> A [ comm ] . var X Y : A ."
                + " oeq f ( X ) = c . eq f ( b ) = a . eq f ( X ) = b if X = a . eq g ( X , Y ) = X . eq g ( X , X ) = c . eq m ( X , Y ) = X .");
        House o = new House("oeq").with("sort A . op a : -> A . op b : -> A . op c : -> A . op f : A -> A . op g : A -> A . var X : A . eq g ( a ) = b . oeq f ( X ) = a . oeq f ( b ) = b . eq f ( c ) = c . oeq g ( X ) = c . eq g ( b ) = a .");
        String[][] due = {{"f ( a )", "a"}, {"f ( b )", "a"}, {"f ( c )", "c"}, {"g ( a )", "b"}, {"g ( b )", "a"}, {"g ( c )", "c"}};
        for (String[] two : due) {
            o.due(two[0], o.rest(two[0]), two[1]);
        }
        h.due("eq first, as they are told", h.rest("f ( b )"), "a");
        h.due("then those with C", h.rest("f ( a )"), "b");
        h.due("oeq last", h.rest("f ( c )"), "c");
        h.due("the first that goes", h.rest("g ( b , b )"), "b");
        h.due("the row first", h.rest("g ( f ( b ) , f ( c ) )"), "a");
        h.due("the first MATCHER", h.rest("m ( c , b )"), "b");
    }

    private static void conditions() {
        House h = new House("conditions").with("sort P A . subsort P < A . op a : -> P . op b : -> A . op c : -> A . op f : A -> A . op g : A -> A . op h : A -> A . op k : A A -> A ."
                + " op p : A A -> A [ comm ] . var X Y Z : A . var P : P . eq f ( X ) = a if X : P . eq f ( X ) = b if k ( Y , Z ) := X /\\ Y = Z ."
                + " eq g ( X ) = Y if p ( Y , Z ) := X /\\ Z : P . eq h ( X ) = Z if p ( Y , Z ) := X /\\ p ( Z , Y ) := X /\\ Y = c . eq k ( a , a ) = b . eq k ( c , b ) = a .");
        h.due("T : SORT", h.rest("f ( a )"), "a");
        h.due("T : SORT of T REDUCED", h.rest("f ( k ( c , b ) )"), "a");
        h.due("T : SORT fails", h.rest("f ( b )"), "f ( b )");
        h.due("T := U", h.rest("f ( k ( c , c ) )"), "b");
        h.due("T := U fails", h.rest("f ( k ( c , X ) )"), "f ( k ( c , X ) )");
        h.due("T = T of both REDUCED", h.rest("f ( k ( b , k ( a , a ) ) )"), "b");
        h.due("the next of T := U is tried", h.rest("g ( p ( a , b ) )"), "b");
        h.due("the first that goes", h.rest("g ( p ( a , a ) )"), "a");
        h.due("none of T := U goes", h.rest("g ( p ( c , b ) )"), "g ( p ( b , c ) )");
        h.due("known variables stand for theirs", h.rest("h ( p ( c , b ) )"), "b");
        h.with("sort A . op a : -> A . op b : -> A . op ok : -> A . op k : A A -> A . op h : A A -> A . op g : A -> A . op n : A A A -> A . var X Y Z : A . eq h ( X , Y ) = ok if k ( Y , Z ) := X ."
                + " eq g ( X ) = n ( X , Y , Z ) if k ( Y , a ) := X /\\ k ( Y , Z ) := X . rl r : n ( X , Y , Z ) => ok if k ( Y , Z ) := X .");
        h.due("that of the left side", h.rest("h ( k ( a , b ) , a )"), "ok");
        h.due("another one", h.rest("h ( k ( a , b ) , b )"), "h ( k ( a , b ) , b )");
        h.due("that of an earlier part", h.rest("g ( k ( b , a ) )"), "n ( k ( b , a ) , b , a )");
        h.due("of a rule", h.x().steps(h.term("n ( k ( a , b ) , a , b )")), 1);
        h.due("another one", h.x().steps(h.term("n ( k ( a , b ) , a , a )")), 0);
        h.due("another one", h.x().steps(h.term("n ( k ( a , b ) , b , b )")), 0);
    }

    private static void rows() {
        House h = new House("rows").with("sort E L . subsort E < L . op nil : -> L . op __ : L L -> L [ assoc id nil ] . op a : -> E . op b : -> E . op c : -> E ."
                + " op _&_ : L L -> L [ assoc comm ] . op w : L -> E . var E : E . var L K : L . eq b a = a b . eq c L c = c . eq a & a = b . eq w ( nil ) = nil .");
        h.due("within a row", h.rest("c b a c"), "c");
        h.due("what is beside stays", h.rest("b b a a"), "a a b b");
        h.due("a row loses its last", h.rest("w ( nil ) w ( nil )"), "nil");
        h.due("one left alone", h.rest("w ( nil ) a"), "a");
        h.due("any of a row", h.rest("a & c & a & a"), "a & b & c");
    }

    private static void atRest() {
        House h = new House("at rest").with("sort A . op a : -> A . op b : -> A . op f : A -> A . op g : A A -> A . var X : A . eq f ( X ) = X .");
        h.term("g ( f ( a ) , f ( a ) )");
        h.x().reduce(0);
        h.due("what came to REST is not REDUCED anew", h.x().count(10), 1);
        h.term("g ( f ( f ( a ) ) , f ( a ) )");
        h.x().reduce(2);
        h.due("nor what it became", h.x().count(10), 1);
        h.term("g ( f ( a ) , f ( b ) )");
        h.x().reduce(4);
        h.due("others are", h.x().count(10), 2);
        // what a row became came to REST, too; so did what the row was ahead of that
        h.with("sort A . op a : -> A . op b : -> A . op f : A -> A . op h : A -> A . op g : A A A -> A . var X : A . eq f ( X ) = X . eq h ( a ) = b .");
        h.x().reduce(h.term("g ( h ( f ( a ) ) , h ( a ) , h ( f ( a ) ) )"));
        h.due("f ( a ), h ( a )", h.x().count(10), 2);
        h.x().reduce(h.term("g ( h ( a ) , h ( f ( a ) ) , f ( h ( a ) ) )"));
        h.due("h ( a ), f ( a ), f ( b )", h.x().count(10), 3);
    }

    /** A counter of three digits: it takes as many STEPS as it tells. */
    private static final String COUNTER = "sort N T . op 0 : -> N . op s_ : N -> N . op t : N N N -> T . var X Y Z : N . eq t ( X , Y , s Z ) = t ( X , Y , Z ) ."
            + " eq t ( X , s Y , 0 ) = t ( X , Y , s s s s s s s s s 0 ) . eq t ( s X , 0 , 0 ) = t ( X , s s s s s s s s s 0 , s s s s s s s s s 0 ) .";

    private static String counter(int number) {
        return "t ( " + times("s ", number / 100, "0") + " , " + times("s ", number / 10 % 10, "0") + " , " + times("s ", number % 10, "0") + " )";
    }

    private static void tooManySteps() {
        House h = new House("steps").with(COUNTER);
        h.due("5", h.rest(counter(5)), "t ( 0 , 0 , 0 )");
        h.due("STEPS", h.x().count(10), 5);
        h.due("600", h.rest(counter(600)), "t ( 0 , 0 , 0 )");
        h.due("STEPS", h.x().count(10), 600);
        h.due("no STOP", h.x().count(9), 0);
        h.due("601", h.rest(counter(601)), "-21");
        h.due("STEPS", h.x().count(10), 601);
        h.due("STOP", h.x().count(9), 1);
    }

    private static void tooLong() {
        House h = new House("long").with("sort T B . subsort T < B . op n : -> B . op __ : B B -> B [ assoc comm id n ] . op a : -> T . op b : -> T . op c : -> T . op d : -> T . op e : -> T ."
                + " op f : B -> B . var B C D : B . eq f ( B C D ) = B if D = e .");
        h.due("81 matchers", h.rest("f ( a b c d )"), "f ( a b c d )");
        h.due("243", h.rest("f ( a b c d e )"), "-22");
    }

    private static void tooWide() {
        House h = new House("wide").with("sort T B . subsort T < B . op n : -> B . op __ : B B -> B [ assoc comm ] . op a : -> T . op b : -> T . op f : B -> B . op g : B -> B . var B : B . var T : T ."
                + " eq f ( T B ) = T . ");
        h.due("6", h.rest("f ( a a a a a b )"), "b");
        h.due("7", h.rest("f ( a a a a a a b )"), "-23");
        h.due("7, whatever is asked of it", h.rest("g ( a a a a a a b )"), "-23");
        h.with("sort T B . subsort T < B . op n : -> B . op __ : B B -> B [ assoc comm ] . op a : -> T . op f : B -> B . op g : B -> B . var B : B . eq f ( B ) = g ( B ) .");
        h.due("not asked of its OPERATOR", h.rest("f ( a a a a a a a )"), "g ( a a a a a a a )");
    }

    private static void tooManyDeals() {
        House h = new House("deals").with("sort T B . subsort T < B . op __ : B B -> B [ assoc comm ] . op a : -> T . op b : -> T . op f : B -> B . op g : B B -> B . var T : T ."
                + " eq f ( T T T T T T ) = T .");
        h.due("of the row and of f, 7 to the power 6 each", h.rest("f ( a a a a a b )"), "f ( a a a a a b )");
        h.due("twice", h.rest("g ( f ( a a a a a b ) , f ( a a a a b b ) )"), "-24");
    }

    private static void tooDeep() {
        String text = "sort N T . op 0 : -> N . op s_ : N -> N . op ok : -> T . op z : N N -> T . var X Y : N . eq z ( 0 , Y ) = ok . eq z ( X , s Y ) = ok if z ( X , Y ) = ok ."
                + " eq z ( s X , 0 ) = ok if z ( X , s s s s s s s s s 0 ) = ok .";
        House h = new House("deep").with(text);
        String nine = times("s ", 9, "0");
        h.due("60 deep", h.rest("z ( " + times("s ", 6, "0") + " , " + nine + " )"), "ok");
        h.due("61 deep", h.rest("z ( " + times("s ", 7, "0") + " , 0 )"), "-25");
        h.due("STOP", h.x().count(9), 5);
        h.with("sort A . op a : -> A . op f : A -> A . eq f ( a ) = f ( f ( a ) ) .");
        h.due("in a row", h.rest("f ( a )"), "-25");
        h.due("at the 61st", h.x().count(10), 61);
    }

    private static void tooBig() {
        House h = new House("big").with("sort A . op 0 : -> A . op s_ : A -> A . op d : A -> A . op p : A A -> A . var X : A . eq d ( X ) = p ( X , X ) .");
        h.due("39", h.rest("d ( " + times("s ", 18, "0 )")), "p ( " + times("s ", 18, "0 , ") + times("s ", 18, "0 )"));
        h.due("41", h.rest("d ( " + times("s ", 19, "0 )")), "-26");
        h.due("no STEP", h.x().count(10), 0);
        h.with("sort A . op a : -> A . op b : -> A . op _ _ : A A -> A [ assoc ] . eq b = a a a .");
        h.due("a row of 39", h.rest(times("a ", 27, "b b b b")), times("a ", 38, "a"));
        h.due("a row of 40", h.rest(times("a ", 26, "b b b b b a").trim()), "-26");
    }

    private static void tooFull() {
        String part = times("a ", 16, "a : A");
        House h = new House("filled").with("sort N A . op 0 : -> N . op s_ : N -> N . op a : -> A . op __ : A A -> A . op c : N -> N . var X : N . eq c ( s X ) = c ( X ) if "
                + times(part + " /\\ ", 5, part) + " .");
        h.due("4,000", h.rest("c ( " + times("s ", 20, "0 )")), "c ( 0 )");
        h.due("4,200", h.rest("c ( " + times("s ", 21, "0 )")), "-27");
        h.due("STOP", h.x().count(9), 7);
        h.due("ahead of the 21st STEP", h.x().count(10), 20);
    }
}
