/** Promises 26 to 29: check, witness, pairs, pair. */
final class JudgedTest {
    public static void main(String[] args) {
        oneLeast();
        joining();
        falling();
        pairs();
        open();
        turned();
        notLookedAt();
        stops();
        System.exit(House.ending());
    }

    private static void witness(House h, int what, int... due) {
        for (int i = 0; i < due.length; i++) {
            h.due("witness(" + what + ", " + i + ")", h.x().witness(what, i), due[i]);
        }
    }

    private static void oneLeast() {
        House h = new House("one least").with("sort A B C D . subsort C < A B . subsort A B < D . op c : -> C . op f : D -> D . op f : A -> A . op f : B -> B .");
        h.due("check(0)", h.x().check(0), 0);
        witness(h, 0, 1, 2, -1);
        h.due("check(2)", h.x().check(2), -1);
        h.due("check(-1)", h.x().check(-1), -1);
        h.due("witness(2, 0)", h.x().witness(2, 0), -1);
        h.due("witness(0, -1)", h.x().witness(0, -1), -1);
        h.due("witness(1, 1)", h.x().witness(1, 1), -1);
        h.due("witness(1, 0): all fall", h.x().witness(1, 0), -2);
        h.with("sort A B C D . subsort C < A B . subsort A B < D . op c : -> C . op f : D -> D . op f : A -> A . op f : B -> B . op f : C -> C .");
        h.due("with a lower one", h.x().check(0), 1);
        h.due("NONE, whatever i", h.x().witness(0, 99), -2);
        h.due("BAD ahead of it", h.x().witness(0, -1), -1);
        h.with("sort A B C . subsort C < A B . op g : A C -> A . op g : C B -> B .");
        h.due("of two", h.x().check(0), 0);
        witness(h, 0, 0, 2, 2, -1);
        h.with("sort A B C . subsort C < A B . op g : A C -> A [ comm ] . op g : B C -> B [ comm ] .");
        witness(h, 0, 0, 2, 2, -1);
        h.with("sort A B . subsort A < B . op k : A B A -> A . op k : B A A -> B .");
        h.due("of three", h.x().check(0), 1);
        h.with("sort A B C . subsort C < A B . op k : A B A -> A . op k : C A C -> B .");
        witness(h, 0, 0, 2, 2, 2, -1);
    }

    private static void joining() {
        // N and N have no row, N and E are E: joined from the left there is none, from the right it is E
        House h = new House("joining").with("sort N E . subsort E < N . op _+_ : E E -> N [ assoc ] . op _+_ : N E -> E [ assoc ] .");
        h.due("check(0)", h.x().check(0), 0);
        witness(h, 0, 0, 0, 0, 1, -1);
        h.with("sort N E . subsort E < N . op _+_ : N E -> E [ assoc ] .");
        h.due("without the other row", h.x().check(0), 0);
        witness(h, 0, 0, 0, 0, 1, -1);
        h.with("sort N E . subsort E < N . op _+_ : N N -> N [ assoc ] . op _+_ : E E -> E [ assoc ] .");
        h.due("holds", h.x().check(0), 1);
    }

    private static void falling() {
        House h = new House("falling").with("sort N . op 0 : -> N . op s_ : N -> N [ prec 15 ] . op _+_ : N N -> N [ comm ] . op _*_ : N N -> N [ prec 31 ] . op f : N -> N . op l : N N -> N . var X Y : N ."
                + " eq X + 0 = X . eq X + s Y = s ( X + Y ) . eq X * s Y = X + X * Y . eq l ( s X , Y ) = l ( X , l ( Y , 0 ) ) .");
        h.due("the last one does not", h.x().check(1), 0);
        witness(h, 1, 3, -1);
        h.with("sort N . op 0 : -> N . op s_ : N -> N [ prec 15 ] . op _+_ : N N -> N [ comm ] . op l : N N -> N . var X Y : N . eq X + s Y = s ( X + Y ) . eq l ( s X , Y ) = l ( X , s Y ) . eq l ( s X , Y ) = Y + X .");
        h.due("in order from the left", h.x().check(1), 1);
        witness(h, 1, -2);
        h.with("sort N . op l : N N -> N . op s_ : N -> N [ prec 15 ] . var X Y : N . eq l ( X , s Y ) = l ( s X , Y ) .");
        h.due("not from the right", h.x().check(1), 0);
        h.with("sort N . op l : N N -> N [ comm ] . op s_ : N -> N [ prec 15 ] . op g : N -> N . var X Y : N . eq l ( s X , s Y ) = l ( X , s Y ) . eq l ( s s X , Y ) = l ( X , Y ) .");
        h.due("as a bag", h.x().check(1), 1);
        h.with("sort N . op l : N N -> N [ comm ] . op s_ : N -> N [ prec 15 ] . var X Y : N . eq l ( X , s Y ) = l ( s X , Y ) .");
        h.due("not as a bag", h.x().check(1), 0);
        h.with("sort N . op a : -> N . op f : N -> N . op g : N -> N . var X Y : N . eq g ( X ) = f ( X ) if f ( f ( X ) ) = a . oeq g ( g ( X ) ) = Y if Y := X . eq f ( X ) = a if g ( X ) : N .");
        witness(h, 1, 1);
        h.with("sort N . op a : -> N . op f : N -> N . op g : N -> N . var X Y : N . eq g ( X ) = f ( X ) if f ( f ( X ) ) = a . eq f ( X ) = a if g ( X ) : N .");
        h.due("all T of its C", h.x().witness(1, 0), 1);
        h.with("sort N . op a : -> N . op b : -> N . eq b = a . eq a = a .");
        h.due("the same is not above", h.x().witness(1, 0), 1);
        // 31 deep on both sides: as many ways down as there are, each is looked at once
        StringBuilder deep = new StringBuilder();
        for (int k = 0; k < 30; k++) {
            deep.append("s ");
        }
        h.with("sort N . op s_ : N -> N . op t_ : N -> N . var X Y : N . eq " + deep + "s X = " + deep + "X . eq " + deep + "X = " + deep.toString().replace("s", "t") + "X .");
        h.due("deep", h.x().witness(1, 0), 1);
    }

    private static void pairs() {
        House h = new House("pairs").with("sort A . op e : -> A . op i : A -> A . op _*_ : A A -> A . var X Y Z : A . eq e * X = X . eq i ( X ) * X = e . eq ( X * Y ) * Z = X * ( Y * Z ) .");
        h.due("pairs", h.x().pairs(0), 3);
        h.due("that do not meet", h.x().pairs(1), 1);
        h.due("open", h.x().pairs(2), 0);
        h.due("i", h.x().pair(0, 0), 1);
        h.due("j", h.x().pair(0, 1), 2);
        h.due("j's right side", h.shown(h.x().pair(0, 2)), "i ( X' ) * ( X' * Z )");
        h.due("the other", h.shown(h.x().pair(0, 3)), "Z");
        h.due("handles", h.x().count(7), 2);
        h.due("pairs(3)", h.x().pairs(3), -1);
        h.due("pairs(-1)", h.x().pairs(-1), -1);
        h.due("pair(1, 0)", h.x().pair(1, 0), -1);
        h.due("pair(-1, 0)", h.x().pair(-1, 0), -1);
        h.due("pair(0, 4)", h.x().pair(0, 4), -1);
        h.due("pair(0, -1)", h.x().pair(0, -1), -1);
        int t = h.x().pair(0, 2);
        h.x().part(t, 0);
        h.x().part(3, 0);
        h.due("a variable that was put apart", h.x().about(4, 3), 30);
        h.due("its sort", h.x().about(4, 1), 0);
        h.due("behind the others in ORDER", h.x().order(4, h.term("Z")), 1);
        h.due("ahead of OPERATORS", h.x().order(4, h.term("e")), -1);
        h.due("in patterns like others", h.x().match(4, h.term("e"), false), 1);
        h.due("bound", h.shown(h.x().bound(0, 30)), "e");
        for (int k = h.x().count(7); k < 200; k++) {
            h.x().part(t, 0);
        }
        h.due("FULL", h.x().pair(0, 2), -3);
        h.due("not of i, j", h.x().pair(0, 1), 2);
        h.due("BAD first", h.x().pair(1, 2), -1);
        h.with("sort A . op a : -> A .");
        h.due("no equations", h.x().pairs(0), 0);
        h.with("sort A . op a : -> A . op b : -> A . op c : -> A . eq a = b . eq a = c .");
        h.due("the whole one once", h.x().pairs(0), 1);
        h.due("i below j", h.x().pair(0, 0) * 10 + h.x().pair(0, 1), 1);
        h.due("c", h.shown(h.x().pair(0, 2)), "c");
        h.due("b", h.shown(h.x().pair(0, 3)), "b");
        h.with("sort A . op a : -> A . op f : A -> A . op g : A A -> A . var X : A . eq f ( f ( X ) ) = a . eq g ( X , f ( X ) ) = X .");
        h.due("in itself, not as a whole", h.x().pairs(0), 2);
        h.due("a variable that is in the term", h.with("sort A . op f : A A -> A . op g : A -> A . var X : A . eq f ( X , X ) = X . eq f ( X , g ( X ) ) = X .").x().pairs(0), 0);
    }

    private static void open() {
        House h = new House("open").with("sort A B C . subsort C < A B . op a : -> A . op f : A -> A . op f : B -> A . op g : A -> A . op h : C -> C . op h : A -> A . var X : A . var Y : B . var Z : C ."
                .replace("op f : B -> A . ", "") + " eq f ( Z ) = a . eq f ( g ( X ) ) = a . eq f ( h ( X ) ) = X .");
        h.due("pairs", h.x().pairs(0), 0);
        h.due("h has a row below C, g has none", h.x().pairs(2), 1);
        h.with("sort A B C D . subsort C < A B . subsort A B < D . op f : D -> D . op d : -> D . op k : D D -> D . var X : A . var Y : B . var Z : C . eq k ( X , Z ) = X . eq k ( Y , d ) = d . eq k ( Y , Y ) = d .");
        h.due("a sort is below both", h.x().pairs(2), 2);
        h.with("sort A B D . subsort A B < D . op k : D -> D . op d : -> D . var X : A . var Y : B . eq k ( X ) = d . eq k ( Y ) = d .");
        h.due("none is", h.x().pairs(2), 0);
        h.with("sort A B . subsort A < B . op k : B -> B . op d : -> B . op e : -> B . var X : A . var Y : B . eq k ( Y ) = d . eq k ( X ) = e .");
        h.due("the lower one", h.x().pairs(1), 1);
        h.with("sort A B . subsort A < B . op k : B B -> B . op d : -> B . op g : B -> B . var X : A . var Y Z : B . eq k ( Y , X ) = g ( X ) . eq k ( X , Y ) = Y .");
        h.due("both lower ones", h.x().pairs(1), 1);
        h.due("of j", h.shown(h.x().pair(0, 2)), "X'");
        h.due("of i", h.shown(h.x().pair(0, 3)), "g ( X' )");
    }

    private static void turned() {
        House h = new House("turned").with("sort A . op a : -> A . op b : -> A . op m : A A -> A [ comm ] . op k : A A -> A . var X Y : A . eq m ( X , Y ) = k ( X , Y ) .");
        h.due("the whole, if a comm OPERATOR stands in it", h.x().pairs(0), 2);
        h.due("one does not meet", h.x().pairs(1), 1);
        // the first ones, i's, stay: X' is with Y, Y' with X
        h.due("j's", h.shown(h.x().pair(0, 2)), "k ( Y' , X' )");
        h.due("i's", h.shown(h.x().pair(0, 3)), "k ( X' , Y' )");
        h.with("sort A . op a : -> A . op b : -> A . op m : A A -> A [ comm ] . var X : A . eq m ( a , b ) = a . eq m ( X , X ) = X . eq m ( X , a ) = b .");
        // 0 with 0: the same ones, once; 0 with 2: turned; 1 with 1, 1 with 2, 2 with 2: in this order and turned
        h.due("all ways", h.x().pairs(0), 8);
        h.due("that do not meet", h.x().pairs(1), 3);
    }

    private static void notLookedAt() {
        House h = new House("not looked at");
        String base = "sort A . op a : -> A . op e : -> A . op _+_ : A A -> A [ assoc ] . op _*_ : A A -> A [ id e ] . op f : A -> A . var X : A . ";
        String[] texts = {"eq f ( X ) = X + X .", "eq X + a = X .", "eq f ( f ( X ) ) = X * X .", "eq f ( X ) = X if X = a .", "oeq f ( X ) = X ."};
        for (String text : texts) {
            h.with(base + text);
            h.due(text, h.x().pairs(0), -2);
            h.due(text + " BAD first", h.x().pairs(5), -1);
            h.due(text + " pair", h.x().pair(0, 0), -1);
        }
        h.with(base + "eq f ( f ( X ) ) = X .");
        h.due("others may be there", h.x().pairs(0), 1);
    }

    private static void stops() {
        House h = new House("stops").with("sort A . op a : -> A . op f : A -> A . op g : A -> A . var X : A . eq f ( X ) = f ( X ) . eq f ( a ) = a .");
        h.due("STEPS of a pair", h.x().pairs(0), -21);
        h.due("again", h.x().pairs(1), -21);
        h.due("pair", h.x().pair(0, 0), -21);
        h.due("the latest STOP", h.x().count(9), 1);
        h.due("BAD ahead", h.x().pair(-1, 0), -1);
        h.due("STEPS are not told", h.x().count(10), 0);
        StringBuilder many = new StringBuilder("sort A . op a : -> A . op m : A A -> A [ comm ] . var X Y Z : A .");
        for (int k = 0; k < 20; k++) {
            many.append(" eq m ( X , m ( Y , Z ) ) = a .");
        }
        // the whole of i and j: 3 ways for each of 210; the inner row: 2 ways for each of 400
        h.with(many.toString());
        h.due("1,430 pairs", h.x().pairs(0), 1430);
        for (int k = 20; k < 40; k++) {
            many.append(" eq m ( X , m ( Y , Z ) ) = a .");
        }
        h.with(many.toString());
        h.due("5,660 are too many", h.x().pairs(0), -22);
        StringBuilder rows = new StringBuilder("X0");
        StringBuilder names = new StringBuilder();
        for (int k = 1; k < 14; k++) {
            rows.insert(0, "+ X" + k + " ");
            names.append(" X").append(k);
        }
        h.with("sort A . op a : -> A . op + _ _ : A A -> A [ comm ] . var X0" + names + " : A . eq " + rows + " = a .");
        h.due("too many DEALS", h.x().pairs(0), -24);
        // j's left side with i's right side there is too big
        h.with("sort A . op a : -> A . op s_ : A -> A [ prec 1 ] . op f : A -> A . op d : A A -> A . var X : A . eq f ( X ) = d ( s s s s s s s s s s X , s s s s s s s s s s X ) ."
                + " eq s f ( s s s s s s s s s s X ) = X .");
        h.due("SIZE above 40", h.x().pairs(0), -26);
    }
}
