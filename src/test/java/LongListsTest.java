/**
 * Promise 16, and all others by which MATCHERS are listed: a list ends by the STOPS that the document names alone,
 * however many ways there are to go that lead to no matcher.
 */
final class LongListsTest {
    private static final String HOPELESS = "f ( A + B + C + D + E + F + G , P * Q * R * T * U * V * W * a )";
    private static final String TERM = "f ( b + c + d + g + h + k , b * c * d * g * h * k * b )";
    private static final int SECONDS = 150;
    /** The OPERATOR e of module(). */
    private static final int ID = 8;

    public static void main(String[] args) {
        watch();
        told();
        states();
        conditions();
        leftSides();
        inOrder();
        hard();
        System.exit(House.ending());
    }

    /** A list that goes all ways would not end for a long time: that is a wrong answer, too. */
    private static void watch() {
        Thread clock = new Thread(() -> {
            try {
                Thread.sleep(SECONDS * 1000L);
            } catch (InterruptedException e) {
                return;
            }
            System.out.println("long lists: no end in " + SECONDS + " seconds");
            Runtime.getRuntime().halt(1);
        });
        clock.setDaemon(true);
        clock.start();
    }

    private static String module(String more) {
        return "sort S . op a : -> S . op b : -> S . op c : -> S . op d : -> S . op g : -> S . op h : -> S . op k : -> S . op o : -> S . op e : -> S ."
                + " op _+_ : S S -> S [ assoc comm id o ] . op _*_ : S S -> S [ id e gather E e ] . op f : S S -> S . op z : S -> S ."
                + " var A B C D E F G P Q R T U V W X : S . " + more;
    }

    private static void told() {
        House h = new House("told").with(module(""));
        int p = h.term(HOPELESS);
        int t = h.term(TERM);
        h.due("262,144 DEALS, no matcher", h.x().match(p, t, false), 0);
        h.due("within", h.x().match(p, t, true), 0);
        h.due("no STOP", h.x().count(9), 0);
        h.due("RESULTS", h.x().count(8), 0);
        h.due("8 to the power 7 would be too many", h.x().match(p, h.term("f ( b + c + d + g + h + k , b + c + d + g + h + k + a )"), false), -23);
        h.due("the same variable on both sides", h.x().match(h.term("f ( A + B + C + D + E + F + G , P * Q * R * T * U * V * V * b )"), t, false), 0);
        h.due("too long a list", h.x().match(h.term("f ( A + B + C + D + E + F + G , P * Q * R * T * U * V * W * X )"), t, false), -22);
        h.due("one way", h.x().match(h.term("f ( A + b + c + d + g + h + k , b * c * d * P * h * Q * b )"), t, false), 1);
        h.due("no way", h.x().match(h.term("f ( A + b + c + d + g + h + k , b * c * d * P * h * Q * k )"), t, false), 0);
        h.due("a row in a row", h.x().match(h.term("( A * B * C * D * E * a ) + ( P * Q * R * T * U * b ) + F + G"), h.term("b + c + d + g + h + k"), false), 0);
        h.due("within a row", h.x().match(h.term("( A * B * C * D * E * a ) + ( P * Q * R * T * U * b ) + F + G"), h.term("b + c + d + g + h + k"), true), 0);
    }

    private static void states() {
        House h = new House("states").with(module(""));
        int p = h.term(HOPELESS);
        int t = h.term(TERM);
        h.due("states", h.x().states(t), 1);
        h.due("search", h.x().search(p, 0), -2);
        h.due("search finds", h.x().search(h.term("f ( A , B )"), 0), 0);
        h.due("always", h.x().law(0, p, 0), -10);
        h.due("never", h.x().law(1, p, 0), 1);
        h.due("must", h.x().law(2, p, 0), -10);
        h.due("leads: the second list has too many DEALS", h.x().law(3, p, p), -1004);
    }

    /** The list of T := U: 262,144 DEALS in each call. */
    private static void conditions() {
        String c = " if f ( B + C + D + E + F + G + X , P * Q * R * T * U * V * W * a ) := A .";
        House h = new House("conditions").with(module("eq z ( A ) = a" + c));
        int t = h.term("z ( " + TERM + " )");
        h.due("reduce", h.x().order(t, h.x().reduce(t)), 0);
        h.due("STEPS", h.x().count(10), 0);
        h.with(module("rl r : z ( A ) => a" + c));
        t = h.term("z ( " + TERM + " )");
        h.due("reduce", h.x().order(t, h.x().reduce(t)), 0);
        h.due("steps", h.x().steps(t), 0);
        h.due("states", h.x().states(t), 1);
        h.due("a strategy", h.strategy(t, "r"), 0);
        h.due("a strategy", h.strategy(t, "not ( r )"), 1);
        h.due("twice it has too many DEALS", h.strategy(t, "r | r"), -24);
    }

    /** 117,649 DEALS with the whole term, and with its row. */
    private static void leftSides() {
        String left = "f ( A + B + C + D + E + F , P * Q * R * T * U * V * W * a )";
        House h = new House("left sides").with(module("eq " + left + " = b ."));
        int t = h.term(TERM);
        h.due("reduce", h.x().order(t, h.x().reduce(t)), 0);
        h.due("no STOP", h.x().count(9), 0);
        h.with(module("rl r : " + left + " => b ."));
        t = h.term(TERM);
        h.due("steps", h.x().steps(t), 0);
        h.due("states", h.x().states(t), 1);
        h.due("no STOP", h.x().count(9), 0);
    }

    /** a, b, c in this order among seven, and in the other order among the same ones the other way round: 35 ways. */
    private static void inOrder() {
        House h = new House("in order").with(module(""));
        for (int i = 0; i < 35; i++) {
            h.spare(70);
            h.due("three of seven", h.x().match(h.term("f ( A * B * C * D * E * F * G , G * F * E * D * C * B * A )"), h.term("f ( a * b * c , c * b * a )"), false), 35);
            h.due("each has four ids", ids(h, i), 4);
        }
        h.with(module(""));
        int p = h.term("f ( A * B * C * D * E * F * G , G * F * E * D * C * B * A )");
        h.due("four of seven", h.x().match(p, h.term("f ( a * b * c * d , d * c * b * a )"), false), 35);
        h.due("all", h.x().match(p, h.term("f ( a * b * c * d * g * h * k , k * h * g * d * c * b * a )"), false), 1);
        h.due("another order", h.x().match(p, h.term("f ( a * b * c * d , d * c * a * b )"), false), 0);
        h.due("one alone is all of it", h.x().match(p, h.term("f ( a * b * c * d , a * b * c * d )"), false), 7);
    }

    /** How many of A .. G stand for the id; others stand for nothing. */
    private static int ids(House h, int i) {
        int many = 0;
        for (int v = 0; v < 7; v++) {
            int got = h.x().bound(i, v);
            many += h.x().about(got, 2) == ID ? 1 : 0;
        }
        for (int v = 7; v < 15; v++) {
            many += h.x().bound(i, v) == -2 ? 0 : 100;
        }
        h.x().forget();
        return many;
    }

    /** The operators of a module by its number: units, then u, v .. with them; p and q are assoc. */
    private static final String[] OPERATORS = {"",
        "u comm id e", "u comm id e; v id e", "u id e; v id g; w id h; x comm id i", "u id e; p assoc comm id o",
        "u comm id e; p assoc comm id o; q assoc id o", "u id e; p assoc comm; q assoc",
        "u id e; v id g; w id h; x id i; p assoc comm id o", "u id e; v id g; w id h; x id i; p assoc comm"};

    /**
     * Patterns and terms that were found by looking for lists that take long, with how many matchers they have (and
     * within). u/v stands for two operators: u A v B C; u%v for u v A B C: an equation brings them in.
     */
    private static final String[][] HARD = {
        {"7", "p/x u%v x%u I K A x%w u%x J F w%x D C H E w K F u A L p%u w/v C B H L D G",
            "p/p p%u h g v/x o d a p%v c c x%w d d w x%f i c d d g", "2", "62"},
        {"7", "p/p u/w v/x L w%u B v%x D L u G H E w%f A g x C E C a u%w H p%x D F C x%w I G A A",
            "p%p f/x d d g p/u p/x x/u w/f d i e i c i g a a x a o", "0", "0"},
        {"8", "p p%w v/x G H D v/w x/u v%u B w%v x%u E A I A I u H E D G J C B x%v C E F",
            "p%p x%v g o w%w g d u%v h h i p/p g p%x a e u e d w/p g b i v%w h e a", "0", "0"},
        {"8", "p%p u/w v/w A H J x/v v%u B w%v C I w%v G d I u D H b J w%w C H A E x v%w D G E F",
            "p%p h p%p i a p v%u p/w i b h v/x a g x/u o g e i v/w i b d b", "0", "0"},
        {"1", "u%u u/u J K c u/u D L u/f u/u u/u H M D F E B B u%u u/u H B G u%u J u/u C e K M I",
            "u u%u c u/u e b c u%u c u%u b d c u/f b b a u%u b c u u/u b b a u%f d a u b b", "0", "0"},
        {"1", "u%u u%u E G u H D u%u H H u u%u C u%u I G F u%u H I D B A",
            "u%u u/u c e a u%u u%f a d f d c c u%u a e u a c u%u u%u b c a e u a d", "155", "155"},
        {"2", "f/u E u/v u/v u%v C B u%v B E u%v H G u v/u F A J D E B G E I",
            "f e u/u e u/v u%u u%v c c u%u e b c c u%u v%f d a e e v%u b u/u b c b e a b c", "179", "179"},
        {"3", "w%x H A x u%x J I x/x F E i w%x H D x%x B B u/x C B x%w E h G",
            "x x/u g w%f c g b w%v e g w h e w/u i h c", "198", "198"},
        {"4", "p G p%u C u%u B u%u E E u D F u/u u%u G E D E E u H D",
            "p/u p%u d a p%f p%p d o a e p/p u/u b c b c d a a", "1", "63"},
        {"4", "p F u/p G p%u u%u B D A H u D u%u u%u B F G E C A",
            "p%p c u/u e c c p%u u/f d a c d p%u c f/u a d o u o f/u o o o", "0", "17"},
        {"5", "u p/u G p%u p/u G C p%u F D u E p%u A I u H A H A F u/u B G D",
            "u%u u%q b a f c d a u%q o d u%u o c q e d u%u a b u%q c d d", "4", "4"},
        {"7", "u/p e w%u H G p H v%w C E w/v A B B F",
            "p p/p p%f c o u h c b w/f o g a a", "5", "95"},
        {"8", "p%p G u/w C B B v/x F J I",
            "p%u a e p p%p i p/w d d p/v x%w i h w/u x%v i o w g g d o w/p g h o d c h", "119", "-22"},
        {"8", "p%x A E p%w D v/x w/u u/v F J v/x C H E u/u G G B B B B G",
            "p b p%p p/p d h w/w a a b g v%w v/u a b e d w/x e h c", "0", "0"},
        {"4", "u/p p/u p%u H A G F D u%u C E u u%u H D F B G",
            "u p%p e p/u p/f f%p a b c b e a o f%f a o e p/p p%f o b p a e f/u b d d c", "9", "9"}};

    private static void hard() {
        for (String[] one : HARD) {
            int number = Integer.parseInt(one[0]);
            House h = new House("hard " + one[1]).with(hardModule(number, one[1] + " " + one[2]));
            int p = h.x().reduce(h.term(one[1]));
            int t = h.x().reduce(h.term(one[2]));
            h.due("matchers", h.x().match(p, t, false), Integer.parseInt(one[3]));
            h.due("within", h.x().match(p, t, true), Integer.parseInt(one[4]));
        }
    }

    private static String hardModule(int number, String words) {
        StringBuilder text = new StringBuilder("sort S . var A B C D E F G H I J K L M N : S .");
        for (String constant : "a b c d e g h i o".split(" ")) {
            text.append(" op ").append(constant).append(" : -> S .");
        }
        for (String operator : OPERATORS[number].split("; ")) {
            text.append(" op ").append(operator.charAt(0)).append(" _ _ : S S -> S [").append(operator.substring(1)).append(" ] .");
        }
        text.append(number == 5 ? " op f _ _ _ : S S S -> S ." : " op f _ _ : S S -> S .");
        java.util.Set<String> told = new java.util.TreeSet<>();
        for (String word : words.split(" ")) {
            if (word.length() == 3 && told.add(word)) {
                String both = word.charAt(1) == '/' ? word.charAt(0) + " A " + word.charAt(2) + " B C" : word.charAt(0) + " " + word.charAt(2) + " A B C";
                text.append(" op ").append(word).append(" _ _ _ : S S S -> S . eq ").append(word).append(" A B C = ").append(both).append(" .");
            }
        }
        return text.toString();
    }
}
