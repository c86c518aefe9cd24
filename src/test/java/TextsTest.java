/** Promises 1 to 6: a new object, feed, end, module, fault, count. */
final class TextsTest {
    private static final int BLANKS = 0x20202020;

    public static void main(String[] args) {
        newObject();
        feeding();
        ending();
        modules();
        faults();
        counting();
        System.exit(House.ending());
    }

    private static void newObject() {
        House h = new House("new");
        for (int what = 0; what <= 10; what++) {
            h.due("count(" + what + ")", h.x().count(what), 0);
        }
        h.due("fault(0)", h.x().fault(0), -2);
        h.due("fault(1)", h.x().fault(1), -2);
        h.due("forget()", h.x().forget(), 0);
        h.due("about(0, 0)", h.x().about(0, 0), -1);
        h.due("print(0, -1)", h.x().print(0, -1), -1);
        h.due("order(0, 0)", h.x().order(0, 0), -9);
        h.due("kind(0)", h.x().kind(0), -1);
        h.due("operator(0, 0)", h.x().operator(0, 0), -1);
        h.due("bound(0, 0)", h.x().bound(0, 0), -1);
        h.due("result(0)", h.x().result(0), -1);
        h.due("way(0, 0)", h.x().way(0, 0), -1);
        h.due("search(0, 0)", h.x().search(0, 0), -1);
        h.due("law(0, 0, 0)", h.x().law(0, 0, 0), -1);
        h.due("check(0)", h.x().check(0), 1);
        h.due("check(1)", h.x().check(1), 1);
        h.due("witness(0, 0)", h.x().witness(0, 0), -2);
        h.due("pairs(0)", h.x().pairs(0), 0);
        h.due("pair(0, 0)", h.x().pair(0, 0), -1);
        h.due("end(0): fewer than twenty", h.x().end(0), -1);
        h.due("module() of an empty tape", h.x().module(), 0);
        h.due("term() of an empty tape", h.x().term(), -11);
        h.due("its place", h.x().fault(0), 0);
        h.due("its line", h.x().fault(1), 1);
    }

    private static void feeding() {
        House h = new House("feed");
        h.with("sort A . op ab : -> A .");
        h.due("feed", h.x().feed(0x61622020, BLANKS, BLANKS, BLANKS, BLANKS), 20);
        h.due("the highest byte first", h.x().term(), 0);
        h.due("which is ab", h.shown(0), "ab");
        h.due("the tape is empty then", h.x().feed(BLANKS, BLANKS, BLANKS, BLANKS, BLANKS), 20);
        h.due("blanks alone have no words", h.x().term(), -11);
        h.due("at the end", h.x().fault(0), 20);
        int size = 0;
        for (int k = 0; k < 300; k++) {
            size = h.x().feed(BLANKS, BLANKS, BLANKS, BLANKS, BLANKS);
        }
        h.due("300 feeds", size, 6000);
        h.due("one more", h.x().feed(0x41414141, BLANKS, BLANKS, BLANKS, BLANKS), -3);
        h.due("changes nothing", h.x().end(20), 6000);
        h.due("end(19)", h.x().end(19), 5999);
        h.due("above 6,000", h.x().feed(BLANKS, BLANKS, BLANKS, BLANKS, BLANKS), -3);
        h.due("end(0)", h.x().end(0), 5979);
        h.due("room again", h.x().feed(BLANKS, BLANKS, BLANKS, BLANKS, BLANKS), 5999);
        h.due("all blank", h.x().module(), 0);
        h.due("bytes below 0", h.x().feed(-1, -1, -1, -1, -1), 20);
        h.due("no such byte", h.x().module(), -11);
        h.due("at the first", h.x().fault(0), 0);
    }

    private static void ending() {
        House h = new House("end");
        h.due("end(20) of nothing", h.x().end(20), -1);
        h.x().feed(0x61616161, 0x61616161, 0x61616161, 0x61616161, 0x61616161);
        h.due("end(-1)", h.x().end(-1), -1);
        h.due("end(21)", h.x().end(21), -1);
        h.due("end(20)", h.x().end(20), 20);
        h.due("end(3)", h.x().end(3), 3);
        h.due("end(3) of three", h.x().end(3), -1);
        h.x().feed(0x62626262, 0x62626262, 0x62626262, 0x62626262, 0x62626262);
        h.due("end(1) cuts the last twenty", h.x().end(1), 4);
        h.x().module();
        h.due("fault of aaab", h.x().fault(0), 0);
    }

    private static void modules() {
        House h = new House("module");
        h.due("operators", h.module("sort A . op a : -> A . op f : A -> A . op g : A -> A . rl r : a => f ( a ) ."), 3);
        h.term("a");
        h.x().steps(0);
        h.due("RESULTS", h.x().count(8), 1);
        h.due("another one", h.module("sort B . op b : -> B ."), 1);
        h.due("handles go", h.x().count(7), 0);
        h.due("RESULTS go", h.x().count(8), 0);
        h.due("no result", h.x().result(0), -1);
        h.due("b", h.term("b"), 0);
        h.due("with a fault", h.module("sort B . op b : -> C ."), -14);
        h.due("handles go, too", h.x().count(7), 0);
        h.due("nothing is there", h.x().count(0) + h.x().count(1) + h.x().count(2) + h.x().count(3), 0);
        h.due("b is not", h.term("b"), -16);
        h.due("words are forgotten", h.module("sort sort . op op : -> sort ."), 1);
        h.due("op is a word like others", h.term("op"), 0);
        h.due("remarks", h.module("*** sort A .\nsort B . ***x ( \001 aaaaaaaaaaaaaaaaaaaaaaaaaaaa\n op b : -> B .(***\n"), -11);
        h.due("a remark ends with its line", h.module("*** sort A .\nsort B . ***x ( \001 aaaaaaaaaaaaaaaaaaaaaaaaaaaa\n op b : -> B . *** end"), 1);
        h.due("signs stand by themselves", h.module("sort A . op[_]:A->A ."), -11);
        h.due("signs stand by themselves", h.module("sort A . op[_] : A -> A[prec 3]. op a : -> A ."), 2);
        h.due("[a]", h.term("[a]"), 0);
        h.due("[ a ]", h.shown(0), "[ a ]");
    }

    private static void faults() {
        House h = new House("fault");
        h.module("sort A .\n\nop a : -> B .");
        h.due("place", h.x().fault(0), 20);
        h.due("line", h.x().fault(1), 3);
        h.due("fault(2)", h.x().fault(2), -1);
        h.due("fault(-1)", h.x().fault(-1), -1);
        h.with("sort A . op a : -> A . op _ + _ : A A -> A [ gather & & ] . rl r : a => a .");
        h.due("none", h.x().fault(0), -2);
        h.due("none", h.x().fault(1), -2);
        h.due("a term's", h.term("a\n a"), -16);
        h.due("place", h.x().fault(0), 0);
        h.due("two readings", h.term("a + a + a"), -4);
        h.due("are no FAULT", h.x().fault(0), -2);
        h.due("are no FAULT", h.x().fault(1), -2);
        h.due("a", h.term("a"), 0);
        h.due("a strategy's", h.strategy(0, "r\n; x"), -11);
        h.due("place", h.x().fault(0), 4);
        h.due("line", h.x().fault(1), 2);
        h.due("none", h.strategy(0, "r"), 1);
        h.due("none", h.x().fault(0), -2);
        h.module("sort A . x");
        h.feed("r");
        h.due("BAD", h.x().strategy(7), -1);
        h.due("has no FAULT", h.x().fault(0), -2);
        h.due("the tape stays", h.x().end(20), -1);
        h.due("r", h.x().term(), -16);
    }

    private static void counting() {
        House h = new House("count");
        h.with("sort A B C D . subsort A < B . op a : -> A . op f : A -> A . op f : B -> B . op f : C -> C . op d : -> D ."
                + " var X Y : A . var Z : D . eq f ( X ) = X . oeq f ( f ( X ) ) = X . rl r : a => a . rl r : d => d . rl s : d => d .");
        int[] due = {4, 3, 4, 5, 3, 2, 3, 0, 0, 0, 0};
        for (int what = 0; what < due.length; what++) {
            h.due("count(" + what + ")", h.x().count(what), due[what]);
        }
        h.due("count(-1)", h.x().count(-1), -1);
        h.due("count(11)", h.x().count(11), -1);
        h.term("f ( f ( a ) )");
        h.x().reduce(0);
        h.due("handles", h.x().count(7), 2);
        h.due("STEPS: f ( a ) came to REST once", h.x().count(10), 1);
        h.x().reduce(9);
        h.due("BAD leaves STEPS", h.x().count(10), 1);
        h.term("a");
        h.x().states(2);
        h.due("RESULTS", h.x().count(8), 1);
        h.due("STEPS by rules count", h.x().count(10), 1);
        h.with("sort A . op a : -> A . op f : A -> A . eq f ( a ) = f ( f ( a ) ) .");
        h.due("no STOP since the module", h.x().count(9), 0);
        h.term("f ( a )");
        h.due("too deep", h.x().reduce(0), -25);
        h.due("the latest STOP", h.x().count(9), 5);
        h.x().forget();
        h.term("a");
        h.due("without a STOP", h.x().reduce(0), 1);
        h.due("it stays", h.x().count(9), 5);
        h.module("");
        h.due("until the next module", h.x().count(9), 0);
    }
}
