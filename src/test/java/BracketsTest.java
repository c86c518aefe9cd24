/** Promise 25: strategies with many brackets in one another. */
final class BracketsTest {
    private static final String MODULE = "sort S . op a : -> S . op b : -> S . rl r : a => b .";

    public static void main(String[] args) {
        sixtyOpened();
        asManyAsCanStand();
        tooFewAndTooMany();
        wholeForms();
        System.exit(House.ending());
    }

    /** The calls as they were told. */
    private static void sixtyOpened() {
        House h = new House("sixty (");
        RewriteHouse x = h.x();
        h.due("feed", x.feed(1936683636, 542318638, 544174112, 1629501984, 759046227), 20);
        h.due("feed", x.feed(539893792, 538976288, 538976288, 538976288, 538976288), 40);
        h.due("end(2)", x.end(2), 22);
        h.due("module", x.module(), 1);
        h.due("feed", x.feed(1629495328, 538976288, 538976288, 538976288, 538976288), 20);
        h.due("end(1)", x.end(1), 1);
        h.due("term", x.term(), 0);
        for (int k = 1; k <= 3; k++) {
            h.due("feed", x.feed(673720360, 673720360, 673720360, 673720360, 673720360), 20 * k);
        }
        h.due("strategy", x.strategy(0), -11);
        h.due("fault(0)", x.fault(0), 60);
        h.due("fault(1)", x.fault(1), 1);
        h.due("61 (", h.strategy(0, "(".repeat(61)), -12);
        h.due("at the 61st", h.x().fault(0), 60);
        h.due("the tape is empty then", h.strategy(0, "idle"), 1);
    }

    private static String inBrackets(String open, String inside, int deep) {
        return open.repeat(deep) + inside + ")".repeat(deep);
    }

    private static void asManyAsCanStand() {
        House h = new House("as many as can stand").with(MODULE);
        int a = h.term("a");
        h.due("60 WORDS, 29 (", h.strategy(a, inBrackets("(", "r *", 29)), 2);
        h.due("answers", h.results(), "a; b");
        h.due("60 WORDS, the last one behind them", h.strategy(a, inBrackets("(", "r", 29) + "!"), 1);
        h.due("answers", h.results(), "b");
        h.due("61 WORDS, 30 (", h.strategy(a, inBrackets("(", "r", 30)), -12);
        h.due("at the last )", h.x().fault(0), 60);
        h.due("61 WORDS, a sign behind them", h.strategy(a, inBrackets("(", "r *", 29) + "*"), -12);
        h.due("at the sign", h.x().fault(0), 61);
        h.due("61 WORDS, the last one cannot stand there", h.strategy(a, inBrackets("(", "r *", 29) + ")"), -11);
        h.due("at it", h.x().fault(0), 61);
        h.due("58 WORDS, 19 not (", h.strategy(a, inBrackets("not ( ", "r ", 19)), 0);
        h.due("60 WORDS, 19 one ( and a sign at each end", h.strategy(a, inBrackets("one ( ", "r ! ", 19) + " *"), 2);
        h.due("answers", h.results(), "a; b");
        h.due("57 WORDS, 14 ( of rows", h.strategy(a, inBrackets("idle ; ( ", "r ", 14)), 1);
        h.due("answers", h.results(), "b");
        h.due("57 WORDS, 14 ( of choices", h.strategy(a, inBrackets("fail | ( ", "r ", 14)), 1);
        h.due("answers", h.results(), "b");
    }

    private static void tooFewAndTooMany() {
        for (int deep = 1; deep <= 28; deep++) {
            House h = new House("too few, too many").with(MODULE);
            int a = h.term("a");
            String right = inBrackets("(", "r *", deep);
            h.due(deep + " (", h.strategy(a, right), 2);
            h.due("one ) too few", h.strategy(a, right.substring(0, right.length() - 1)), -11);
            h.due("at the end", h.x().fault(0), right.length() - 1);
            h.due("none", h.strategy(a, right.substring(0, deep + 3)), -11);
            h.due("at the end", h.x().fault(0), deep + 3);
            h.due("one ) too many", h.strategy(a, right + ")"), -11);
            h.due("at it", h.x().fault(0), right.length());
            h.due("nothing in the innermost", h.strategy(a, inBrackets("(", "", deep)), -11);
            h.due("at its )", h.x().fault(0), deep);
            h.due("a bracket behind one", h.strategy(a, right + "\n(r)"), -11);
            h.due("at it", h.x().fault(0), right.length() + 1);
            h.due("in its line", h.x().fault(1), 2);
            h.due("RESULTS stay", h.x().count(8), 2);
        }
    }

    /** Signs bind the same at each depth: first * and !, then ;, then |. */
    private static void wholeForms() {
        String text = "sort S . op a : -> S . op b : -> S . op c : -> S . op d : -> S . rl p : a => b . rl q : b => c . rl r : c => d . rl s : a => d .";
        String[] plans = {"p ; q | s", "s | p ; q", "p ; ( q | s )", "( p | s ) ; q", "p ; q ; r *", "( p ; q | s ) *", "p ; ( q | q ; r ) | s", "p | s ; ( fail | idle ) | fail",
            "not ( q ) ; p ; one ( q | idle )", "( p | q ) ! | p", "p ; q * ; r !", "one ( s | p ) ; not ( p | q ) | p"};
        String[] due = {"c; d", "d; c", "c", "c", "c; d", "a; c; d", "c; d", "b; d",
            "c", "c; b", "b; d", "d; b"};
        for (int k = 0; k < plans.length; k++) {
            House h = new House("whole forms").with(text);
            for (int deep = 0; deep < 3; deep++) {
                int a = h.term("a");
                String plan = inBrackets("( ", plans[k] + " ", deep);
                h.strategy(a, plan);
                h.due(plan, h.results(), due[k]);
                h.x().forget();
            }
        }
    }
}
