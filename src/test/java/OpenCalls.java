/**
 * How many calls stand open at once: rule 8 of LANGUAGE.md has them below 300. Run with the copy of the class that
 * OpenCount makes; what goes deepest is asked of it.
 */
final class OpenCalls {
    private static final int BOUND = 300;

    public static void main(String[] args) {
        strategiesRead();
        strategiesAtWork();
        termsReadAndPrinted();
        pairs();
        System.exit(House.ending());
    }

    private static void dueBelow(House h, String call, int least) {
        h.due(call + ": " + OpenCount.most + " calls stand open", OpenCount.most < BOUND ? 1 : 0, 1);
        // a copy that is told of no calls would prove nothing
        h.due(call + ": " + OpenCount.most + " are counted", OpenCount.most >= least ? 1 : 0, 1);
        OpenCount.most = 0;
    }

    private static void strategiesRead() {
        House h = new House("strategies read").with("sort S . op a : -> S . rl r : a => a .");
        int a = h.term("a");
        OpenCount.most = 0;
        String[] opened = {"(", "not (", "one (", "idle ; (", "fail | (", "r * ; not (", "r | r ; one ("};
        for (String open : opened) {
            int words = open.replace("(", " (").trim().split("\\s+").length;
            for (int many = 60 / words - 1; many <= 60 / words + 2; many++) {
                h.strategy(a, (open + " ").repeat(many));
                dueBelow(h, many + " times " + open, 3);
            }
            int deep = 58 / (words + 1);
            h.due(open, h.strategy(a, (open + " ").repeat(deep) + "r *" + " )".repeat(deep)) >= 0 ? 1 : 0, 1);
            dueBelow(h, deep + " times " + open + " and closed", 3);
        }
    }

    /** Conditions as deep in one another as they can be: 10 x's times as many s; then a term that is deep itself. */
    private static String deepConditions() {
        StringBuilder text = new StringBuilder("sort S W . op a : -> S . op b : -> S . op w : -> W . op z : -> S . op s _ : S -> S [ prec 0 ] ."
                + " op _ + _ : S S -> S [ comm ] . op h : S S -> W . op k : S S -> W . var X Y : S . ");
        for (int k = 0; k < 10; k++) {
            text.append("op x").append(k).append(" : -> S . ");
        }
        for (int k = 0; k < 9; k++) {
            text.append("eq h ( x").append(k).append(" , Y ) = w if h ( x").append(k + 1).append(" , Y ) = w . ");
        }
        text.append("eq h ( x8 , s s s s s z ) = w if k ( s X + s Y , ").append("s ".repeat(18)).append("z ) := w . ");
        text.append("eq h ( x9 , Y ) = w if h ( x0 , s Y ) = w . rl r : a => b if h ( x0 , z ) = w .");
        return text.toString();
    }

    private static void strategiesAtWork() {
        String[] signs = {" *", " !"};
        for (String sign : signs) {
            House h = new House("strategies at work").with(deepConditions());
            int a = h.term("a");
            h.due("60 WORDS", h.strategy(a, "r" + sign.repeat(59)), -25);
            dueBelow(h, "60 WORDS at work", 180);
            h.due("steps", h.x().steps(a), -25);
            dueBelow(h, "steps", 120);
            h.due("states", h.x().states(a), -25);
            dueBelow(h, "states", 120);
        }
    }

    private static void termsReadAndPrinted() {
        House h = new House("terms").with("sort S . op a : -> S . op s _ : S -> S [ prec 0 ] . op d : S -> S . op _ + _ : S S -> S [ comm gather E E ] . op _ x _ : S S -> S [ assoc ] ."
                + " var X Y : S . eq d ( X ) = s s s s s s s s s s X .");
        OpenCount.most = 0;
        int deep = h.term("s ".repeat(31) + "a");
        dueBelow(h, "32 WORDS", 32);
        int row = h.term("a" + " x a".repeat(15));
        h.due("printed", h.x().print(row, -1), 61);
        dueBelow(h, "a row printed", 30);
        int forty = h.x().reduce(h.term("d ( d ( d ( s s s s s s s s s a ) ) )"));
        h.due("SIZE 40", h.x().about(forty, 0), 40);
        dueBelow(h, "reduced", 10);
        h.due("printed", h.x().print(forty, -1), 79);
        dueBelow(h, "40 deep printed", 80);
        h.due("ORDER", h.x().order(deep, forty), -1);
        dueBelow(h, "ORDER", 20);
        h.due("matchers", h.x().match(h.term("s s X"), forty, true), 1);
        dueBelow(h, "matchers", 3);
    }

    private static void pairs() {
        House h = new House("pairs").with("sort S . op a : -> S . op s _ : S -> S [ prec 0 ] . op f : S S -> S . op _ + _ : S S -> S [ comm ] . var X Y Z : S ."
                + " eq f ( " + "s ".repeat(12) + "X , X ) = a . eq f ( Y , " + "s ".repeat(20) + "Z ) = Y + Z . eq " + "s ".repeat(27) + "( X + Y ) = a .");
        OpenCount.most = 0;
        h.x().pairs(0);
        dueBelow(h, "pairs", 20);
    }
}
