/** Promises 7 to 15: terms, and sorts and operators. */
final class TermsTest {
    public static void main(String[] args) {
        reading();
        strengths();
        parts();
        ordering();
        printing();
        leastSorts();
        handles();
        sorts();
        operators();
        System.exit(House.ending());
    }

    private static void read(House h, String text, String printed) {
        int got = h.term(text);
        h.due("term " + text, got < 0 ? "" + got : h.shown(got), printed);
        h.x().forget();
    }

    private static void reading() {
        House h = new House("reading").with("sort A . op a : -> A . op b : -> A . op w_then_else_fi : A A A -> A . op f : A A -> A ."
                + " op s_ : A -> A . op <_|_> : A A -> A . op {} : -> A . op end of it : -> A . op _! : A -> A . var X : A .");
        read(h, "a", "a");
        read(h, "( ( a ) )", "a");
        read(h, "w a then b else X fi", "w a then b else X fi");
        read(h, "f(a,f(b,X))", "f ( a , f ( b , X ) )");
        read(h, "s s a", "s s a");
        read(h, "< a | b >", "< a | b >");
        read(h, "<a|b>", "-16");
        read(h, "{}", "{ }");
        read(h, "end of it", "end of it");
        read(h, "a ! !", "a ! !");
        read(h, "s a !", "-4");
        read(h, "( s a ) !", "s a !");
        read(h, "c", "-16");
        read(h, "a a", "-16");
        read(h, "f ( a )", "-16");
        read(h, "( )", "-16");
        read(h, "", "-11");
        h.due("place", h.x().fault(0), 0);
        read(h, "a .", "-11");
        h.due("place", h.x().fault(0), 2);
        read(h, "a\200", "-11");
        h.due("place", h.x().fault(0), 1);
        read(h, "*** a", "-11");
        read(h, "*** a\na", "a");
        StringBuilder many = new StringBuilder();
        for (int k = 0; k < 31; k++) {
            many.append("s ");
        }
        read(h, many + "a", many + "a");
        read(h, "  s " + many + "a", "-12");
        h.due("place", h.x().fault(0), 2);
        StringBuilder most = new StringBuilder(" ");
        for (int k = 0; k < 1000; k++) {
            most.append("s ");
        }
        read(h, most + "a", "-12");
        h.due("place", h.x().fault(0), 1);
        h.with("sort A B . op a : -> A . op b : -> B . op f : A -> A . op f : B -> B . var a : B .");
        read(h, "f ( b )", "f ( b )");
        read(h, "a", "-4");
        read(h, "f ( a )", "-4");
    }

    private static void strengths() {
        House h = new House("strengths").with("sort A . op a : -> A . op _+_ : A A -> A [ prec 33 ] . op _*_ : A A -> A [ prec 31 ] ."
                + " op -_ : A -> A [ prec 15 ] . op _^_ : A A -> A [ prec 29 gather E e ] . op _@_ : A A -> A [ prec 0 ] . var X Y Z : A .");
        read(h, "X + Y * Z", "X + Y * Z");
        read(h, "( X + Y ) * Z", "( X + Y ) * Z");
        read(h, "X + Y + Z", "X + Y + Z");
        read(h, "X + ( Y + Z )", "X + ( Y + Z )");
        read(h, "( X + Y ) + Z", "X + Y + Z");
        read(h, "X ^ Y ^ Z", "X ^ Y ^ Z");
        read(h, "( X ^ Y ) ^ Z", "( X ^ Y ) ^ Z");
        read(h, "X ^ ( Y ^ Z )", "X ^ Y ^ Z");
        read(h, "- X + Y", "- X + Y");
        read(h, "- ( X + Y )", "- ( X + Y )");
        read(h, "X @ Y", "-16");
        read(h, "( X ) @ ( Y )", "-16");
        h.with("sort A . op a : -> A . op p_ : A -> A . op _q : A -> A . op _r_ : A A -> A .");
        read(h, "p a r a", "-4");
        read(h, "p ( a r a )", "p a r a");
        read(h, "a r p a", "-16");
        read(h, "a r ( p a )", "a r ( p a )");
        read(h, "a q r a", "a q r a");
    }

    private static void parts() {
        House h = new House("parts").with("sort A . op e : -> A . op a : -> A . op b : -> A . op _ _ : A A -> A [ assoc id e ] ."
                + " op _ + _ : A A -> A [ assoc comm id e ] . op c : A A -> A [ comm ] . op u : A A -> A [ id e ] . var X Y : A .");
        h.due("row", h.term("( b a ) ( e ( a X ) )"), 0);
        h.due("of four", h.x().about(0, 4), 4);
        h.due("SIZE", h.x().about(0, 0), 5);
        h.due("OPERATOR", h.x().about(0, 2), 3);
        h.due("no variable", h.x().about(0, 3), -2);
        h.due("KIND", h.x().about(0, 5), 0);
        h.due("part", h.x().part(0, 3), 1);
        h.due("is the variable", h.x().about(1, 3), 0);
        h.due("no OPERATOR", h.x().about(1, 2), -2);
        h.due("no row", h.x().about(1, 4), 0);
        h.due("SIZE", h.x().about(1, 0), 1);
        h.due("part(0, 4)", h.x().part(0, 4), -1);
        h.due("part(0, -1)", h.x().part(0, -1), -1);
        h.due("part(2, 0)", h.x().part(2, 0), -1);
        h.due("about(0, 6)", h.x().about(0, 6), -1);
        h.due("about(0, -1)", h.x().about(0, -1), -1);
        h.due("about(-1, 0)", h.x().about(-1, 0), -1);
        read(h, "e e", "e");
        read(h, "e a", "a");
        read(h, "b + a + Y + X + e", "X + Y + a + b");
        read(h, "c ( b , a )", "c ( a , b )");
        read(h, "c ( e , a )", "c ( e , a )");
        read(h, "u ( e , u ( a , e ) )", "a");
        read(h, "u ( u ( a , b ) , a )", "u ( u ( a , b ) , a )");
        read(h, "( a b ) + ( b + a )", "a + b + ( a b )");
    }

    private static void ordering() {
        House h = new House("order").with("sort A . op a : -> A . op f : A -> A . op b : -> A . op _ _ : A A -> A [ assoc ] . var X Y : A .");
        String[] inOrder = {"X", "Y", "a", "f ( X )", "f ( a )", "f ( f ( a ) )", "f ( b )", "b", "X b", "a X", "a a", "a X X", "b X X"};
        for (String text : inOrder) {
            h.term(text);
        }
        for (int i = 0; i < inOrder.length; i++) {
            for (int j = 0; j < inOrder.length; j++) {
                h.due("order " + inOrder[i] + ", " + inOrder[j], h.x().order(i, j), Integer.compare(i, j));
            }
        }
        h.due("order(0, 99)", h.x().order(0, 99), -9);
        h.due("order(-1, 0)", h.x().order(-1, 0), -9);
    }

    private static void printing() {
        House h = new House("print").with("sort A . op a : -> A . op _ + _ : A A -> A [ assoc comm gather E e ] . op f : A -> A . var X : A .");
        h.term("f ( a ) + a");
        h.due("size", h.x().print(0, -1), 11);
        h.due("first", h.x().print(0, 0), 'a');
        h.due("last", h.x().print(0, 10), ')');
        h.due("behind", h.x().print(0, 11), -1);
        h.due("ahead", h.x().print(0, -2), -1);
        h.due("no handle", h.x().print(1, -1), -1);
        h.due("text", h.shown(0), "a + f ( a )");
        read(h, "( a + X ) + ( f ( a ) + a )", "( ( X + a ) + a ) + f ( a )");
        h.with("sort A . op longer_and _longer word : A A -> A . op a : -> A .");
        read(h, "longer a and ( longer a and a longer word ) longer word", "longer a and longer a and a longer word longer word");
    }

    private static void leastSorts() {
        House h = new House("least").with("sort N P Z E Q . subsort P Z < N . subsort E < P . op 0 : -> Z . op s_ : N -> P [ prec 15 ] . op e : -> E . op _+_ : N N -> N [ assoc comm ] ."
                + " op _+_ : P N -> P [ assoc comm ] . op _+_ : Z Z -> Z [ assoc comm ] . op d : Z -> Z . op d : P -> P . op q : -> Q . op t : E E -> E . op t : P Z -> P . op t : Z P -> Z . var N : N . var Z : Z .");
        h.due("kinds", h.x().count(1), 2);
        least(h, "0", 2);
        least(h, "s 0", 1);
        least(h, "N", 0);
        least(h, "0 + 0", 2);
        least(h, "0 + s 0", 1);
        least(h, "N + 0", 0);
        least(h, "N + 0 + 0 + s N", 1);
        least(h, "d ( s 0 )", 1);
        least(h, "d ( N )", -2);
        least(h, "s d ( N )", -2);
        least(h, "t ( e , e )", 3);
        least(h, "t ( 0 , s 0 )", 2);
        least(h, "t ( s 0 , s 0 )", -2);
        least(h, "q", 4);
        h.with("sort A B C . subsort C < A B . sort D . subsort A B < D . op f : A -> A . op f : B -> B . op c : -> C . var X : C .");
        least(h, "f ( c )", -2);
        h.due("ONE LEAST", h.x().check(0), 0);
    }

    private static void least(House h, String text, int sort) {
        int t = h.term(text);
        h.due("least sort of " + text, h.x().about(t, 1), sort);
    }

    private static void handles() {
        House h = new House("handles").with("sort A . op a : -> A . op f : A -> A . op _ + _ : A A -> A [ gather & & ] . eq f ( f ( a ) ) = a . rl r : a => f ( a ) .");
        h.term("f ( a )");
        for (int k = 1; k < 200; k++) {
            h.due("part", h.x().part(0, 0), k);
        }
        h.due("part: FULL", h.x().part(0, 0), -3);
        h.due("part: BAD first", h.x().part(0, 1), -1);
        h.due("term: FULL", h.term("a"), -3);
        h.due("term: FULL last", h.term("b"), -16);
        h.due("term: FULL last", h.term("a + a + a"), -4);
        h.due("reduce: FULL", h.x().reduce(0), -3);
        h.due("steps", h.x().steps(0), 1);
        h.due("result: FULL", h.x().result(0), -3);
        h.due("result: BAD", h.x().result(1), -1);
        h.due("match", h.x().match(0, 0, false), 1);
        h.due("bound: NONE", h.x().bound(0, 0), -2);
        h.due("forget", h.x().forget(), 200);
        h.due("forget", h.x().forget(), 0);
        h.due("none", h.x().count(7), 0);
        h.due("from 0 on", h.term("a"), 0);
        h.due("RESULTS stay", h.x().count(8), 1);
    }

    private static void sorts() {
        House h = new House("sorts").with("sort A B C D E . subsort A < B < C . subsort D < C .");
        int[][] below = {{1, 1, 1, 0, 0}, {0, 1, 1, 0, 0}, {0, 0, 1, 0, 0}, {0, 0, 1, 1, 0}, {0, 0, 0, 0, 1}};
        for (int s = 0; s < 5; s++) {
            for (int t = 0; t < 5; t++) {
                h.due("below(" + s + ", " + t + ")", h.x().below(s, t), below[s][t]);
            }
            h.due("kind(" + s + ")", h.x().kind(s), s == 4 ? 1 : 0);
        }
        h.due("below(5, 0)", h.x().below(5, 0), -1);
        h.due("below(0, -1)", h.x().below(0, -1), -1);
        h.due("kind(5)", h.x().kind(5), -1);
        h.due("kind(-1)", h.x().kind(-1), -1);
        h.with("sort A B C D . subsort D < B .");
        h.due("KINDS by their first sorts", h.x().kind(3) * 100 + h.x().kind(2) * 10 + h.x().kind(1), 121);
    }

    private static void operators() {
        House h = new House("operators").with("sort A B . op e : -> A . op f : A A -> A [ assoc comm id e prec 7 ] . op _ + _ : A A -> A . op s_ : A -> A . op _k : B -> A . op <_> : B -> B . op f : B B -> B [ comm ] . op t : A B A -> B .");
        int[][] due = {{0, 0, 0, 0, -2, 1, 0}, {2, 7, 1, 1, 0, 1, 0}, {2, 41, 0, 0, -2, 1, 0}, {1, 41, 0, 0, -2, 1, 0},
            {1, 41, 0, 0, -2, 1, 0}, {1, 0, 0, 0, -2, 1, 1}, {2, 0, 0, 1, -2, 1, 1}, {3, 0, 0, 0, -2, 1, 1}};
        for (int o = 0; o < due.length; o++) {
            for (int what = 0; what < 7; what++) {
                h.due("operator(" + o + ", " + what + ")", h.x().operator(o, what), due[o][what]);
            }
        }
        h.due("operator(8, 0)", h.x().operator(8, 0), -1);
        h.due("operator(-1, 0)", h.x().operator(-1, 0), -1);
        h.due("operator(0, 7)", h.x().operator(0, 7), -1);
        h.due("operator(0, -1)", h.x().operator(0, -1), -1);
        h.with("sort A B . subsort A < B . op f : A -> A . op f : B -> B .");
        h.due("rows of op", h.x().operator(0, 5), 2);
    }
}
