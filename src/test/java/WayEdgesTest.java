/** Promises 18 to 25, STEPS BY RULES, and 5 WAYS: each sentence that names an edge. */
final class WayEdgesTest {
    private static final House H = new House("edges of ways");
    /** Counts down from two digits, a step each. */
    private static final String DOWN = "sort N S Q . op 0 : -> N . op s_ : N -> N . op t : N N -> S . op q : -> Q . op z : -> S . op d : -> S . var N M : N . var S : S . var Q : Q . rl r : t ( N , s M ) => t ( N , M ) . rl r : t ( s N , 0 ) => t ( N , s s s s s s s s s 0 ) . ";
    /** go has 60 STEPS: 6 times 5 times 2 ways to cut three lists. */
    private static final String CUTS = "sort T L S . subsort T < L . op nil : -> L . op __ : L L -> L [ assoc id nil ] . op a : -> T . op b : -> T . op go : -> S . op other : -> S . op h : -> S . op z : -> S . op k : L L L -> S ."
            + " var L M K X Y Z : L . rl r : go => k ( L , M , K ) if L X := a b a b a /\\ M Y := a b a b /\\ K Z := a . rl fst : h => go . rl snd : h => other . ";

    public static void main(String[] args) {
        reduced();
        stepsListed();
        stepsInOrder();
        results();
        ways();
        statesListed();
        searched();
        laws();
        lawsOfOne();
        strategiesRefused();
        strategyWords();
        strategyLabels();
        answersListed();
        latestResults();
        stepsCounted();
        System.exit(House.ending());
    }

    private static String digits(int number) {
        return "t ( " + "s ".repeat(number / 10) + "0 , " + "s ".repeat(number % 10) + "0 )";
    }

    /** reduce: "A handle of a TERM REDUCED. BAD; FULL (ahead of all)." */
    private static void reduced() {
        H.with("sort A . op a : -> A . op b : -> A . op f : A -> A . var X : A . eq f ( X ) = X .");
        H.term("f ( a )");
        H.due("a handle", H.x().reduce(0), 1);
        for (int h : new int[] {-1, 2, 200, Integer.MIN_VALUE, Integer.MAX_VALUE}) {
            H.refused("reduce(" + h + ")", () -> H.x().reduce(h), -1);
        }
        H.with("sort A . op a : -> A . op b : -> A . op f : A -> A . var X : A . eq f ( X ) = X .");
        H.term("f ( a )");
        H.fillHandles(0, 199);
        H.due("the 200th", H.x().reduce(0), 199);
        H.refused("FULL", () -> H.x().reduce(0), -3);
        H.refused("FULL ahead of BAD", () -> H.x().reduce(200), -3);
        H.refused("FULL ahead of BAD", () -> H.x().reduce(-1), -3);
        H.with("sort A . op a : -> A . op f : A -> A . eq f ( a ) = f ( f ( a ) ) . eq f ( f ( a ) ) = f ( a ) .");
        H.term("f ( a )");
        H.due("STEPS", H.x().reduce(0), -25);
        H.fillHandles(0, 200);
        H.refused("FULL ahead of a STOP", () -> H.x().reduce(0), -3);
    }

    /** "60 at most (else STOP 2)"; "Those that are the same as an earlier one are left out". */
    private static void stepsListed() {
        H.with(CUTS);
        int go = H.term("go");
        H.due("60", H.x().steps(go), 60);
        H.due("RESULTS", H.x().count(8), 60);
        H.due("STEPS", H.x().count(10), 60);
        H.due("the last one", H.x().result(59), 1);
        H.due("none behind it", H.x().result(60), -1);
        H.with(CUTS + "rl r : go => k ( nil , nil , a ) . rl r : go => k ( a b a b a , a b a b , a ) .");
        H.due("61st, 62nd STEP, the same as earlier ones", H.x().steps(H.term("go")), 60);
        H.due("STEPS", H.x().count(10), 62);
        H.due("the rule by which it came first", H.x().way(59, 0), 0);
        H.with(CUTS + "rl x : go => z .");
        int one = H.term("go");
        H.due("those of r", H.strategy(one, "r"), 60);
        H.stopped("61", () -> H.x().steps(one), 2);
        H.due("STEPS", H.x().count(10), 61);
        H.stopped("61 of STATE 0", () -> H.x().states(one), 2);
        H.with(CUTS + "rl r : go => z .");
        int two = H.term("go");
        H.due("61 of one LABEL", H.strategy(two, "r"), -22);
        for (int h : new int[] {-1, 1, 200, Integer.MIN_VALUE, Integer.MAX_VALUE}) {
            H.refused("steps(" + h + ")", () -> H.x().steps(h), -1);
            H.due("states(" + h + ")", H.x().states(h), -1);
        }
    }

    /** "for its places (itself, then its row from left to right, variables, too, each wholly before the next; a TERM that stands in a row twice each time)". */
    private static void stepsInOrder() {
        String text = "sort A . op e : -> A . op a : -> A . op b : -> A . op f : A -> A . op n : A A -> A [ id e ] . op k : A A A -> A . op m : A A -> A [ comm ] . var X Y : A . ";
        H.with(text + "rl r : a => b . rl q : f ( X ) => X .");
        H.x().steps(H.term("k ( f ( f ( a ) ) , a , f ( b ) )"));
        H.due("in order", H.results(), "k ( f ( a ) , a , f ( b ) ); k ( f ( f ( b ) ) , a , f ( b ) ); k ( f ( f ( a ) ) , b , f ( b ) ); k ( f ( f ( a ) ) , a , b )");
        H.due("STEPS: f ( a ) came by two", H.x().count(10), 5);
        H.with(text + "rl r : a => b .");
        H.due("twice the same", H.x().steps(H.term("m ( a , a )")), 1);
        H.due("each time", H.x().count(10), 2);
        H.due("in another row, too", H.x().steps(H.term("m ( f ( a ) , f ( a ) )")), 1);
        H.due("each time", H.x().count(10), 2);
        H.with(text + "rl r : n ( X , Y ) => f ( n ( f ( X ) , Y ) ) .");
        int v = H.term("X");
        H.due("a variable is a place", H.x().steps(v), 2);
        H.due("in order", H.results(), "f ( n ( f ( X ) , e ) ); f ( n ( f ( e ) , X ) )".replace("n ( f ( X ) , e )", "f ( X )"));
        H.due("a constant is, too", H.x().steps(H.term("a")), 2);
        H.with(text + "rl r : n ( X , Y ) => f ( n ( f ( X ) , Y ) ) .");
        H.due("in a row: the second is another way to the same", H.x().steps(H.term("f ( X )")), 3);
        H.due("STEPS", H.x().count(10), 4);
        // the deepest place that there is
        H.with("sort A . op a : -> A . op b : -> A . op x : -> A . op s_ : A -> A . eq x = " + "s ".repeat(20) + "a . rl r : a => b .");
        int whole = H.x().reduce(H.term("s ".repeat(19) + "x"));
        H.due("SIZE", H.x().about(whole, 0), 40);
        H.due("39 deep", H.x().steps(whole), 1);
        H.due("STATES", H.x().states(whole), 2);
        int step = H.x().result(1);
        H.due("SIZE", H.x().about(step, 0), 40);
        for (int k = 0; k < 39; k++) {
            step = H.x().part(step, 0);
        }
        H.dueTerm("there", step, "b");
        // rules as they are told, then matchers in their order
        H.with(text + "rl q : m ( X , Y ) => X . rl r : m ( X , b ) => f ( X ) . rl s : m ( a , Y ) => e .");
        H.x().steps(H.term("m ( b , a )"));
        H.due("in order", H.results(), "a; b; f ( a ); e");
        int[] rules = {0, 0, 1, 2};
        for (int i = 0; i < 4; i++) {
            H.due("the rule", H.x().way(i, 0), rules[i]);
        }
    }

    /** result: "BAD: none such, or they are MATCHERS. FULL." */
    private static void results() {
        H.with(DOWN);
        H.due("no RESULTS", H.x().result(0), -1);
        int t = H.term(digits(3));
        H.x().states(t);
        H.due("the last", H.x().result(3), 1);
        for (int i : new int[] {-1, 4, 200, Integer.MIN_VALUE, Integer.MAX_VALUE}) {
            H.refused("result(" + i + ")", () -> H.x().result(i), -1);
        }
        H.x().match(t, t, false);
        H.refused("MATCHERS", () -> H.x().result(0), -1);
        H.with(DOWN);
        H.term(digits(3));
        H.x().steps(t);
        H.fillHandles(t, 199);
        H.due("the 200th", H.x().result(0), 199);
        H.refused("FULL", () -> H.x().result(0), -3);
        H.refused("BAD ahead of FULL", () -> H.x().result(1), -1);
        H.refused("BAD ahead of FULL", () -> H.x().result(-1), -1);
        H.x().forget();
        H.due("they outlast handles", H.x().result(0), 0);
        H.dueTerm("the step", 0, digits(2));
    }

    /** way: "(0: NONE of STATE 0) .. BAD: none such." */
    private static void ways() {
        H.with(DOWN);
        for (int what = -1; what < 5; what++) {
            H.due("no RESULTS", H.x().way(0, what), -1);
        }
        int t = H.term(digits(12));
        H.due("states", H.x().states(t), 13);
        int[][] due = {{-2, -2, 0, 1}, {0, 0, 1, 1}, {1, 0, 2, 1}, {2, 1, 3, 1}, {3, 0, 4, 1}};
        for (int k = 0; k < due.length; k++) {
            for (int what = 0; what < 4; what++) {
                H.due("way(" + k + ", " + what + ")", H.x().way(k, what), due[k][what]);
            }
        }
        H.due("the last one came from", H.x().way(12, 0), 11);
        H.due("so many steps from 0", H.x().way(12, 2), 12);
        H.due("it has no STEPS", H.x().way(12, 3), 0);
        for (int what = 0; what < 4; what++) {
            H.due("way(13, " + what + ")", H.x().way(13, what), -1);
            H.due("way(-1, " + what + ")", H.x().way(-1, what), -1);
        }
        for (int what : new int[] {-1, 4, Integer.MIN_VALUE, Integer.MAX_VALUE}) {
            H.due("way(0, " + what + ")", H.x().way(0, what), -1);
        }
        H.x().steps(t);
        H.due("of steps()", H.x().way(0, 0), 0);
        for (int what : new int[] {-1, 1, 2, 3, 4}) {
            H.due("of steps(): way(0, " + what + ")", H.x().way(0, what), -1);
        }
        H.due("of steps(): way(1, 0)", H.x().way(1, 0), -1);
        H.strategy(t, "r");
        for (int what = -1; what < 5; what++) {
            H.due("of strategy()", H.x().way(0, what), -1);
        }
        H.x().match(t, t, false);
        for (int what = -1; what < 5; what++) {
            H.due("of match()", H.x().way(0, what), -1);
        }
        // STEPS that lead to STATES that are there already count; those that are the same do not
        H.with("sort A . op a : -> A . op b : -> A . op c : -> A . rl r : a => a . rl r : a => b . rl q : a => b . rl r : b => c . rl r : c => a . rl r : c => b .");
        H.due("states", H.x().states(H.term("a")), 3);
        H.due("a's STEPS", H.x().way(0, 3), 2);
        H.due("b's STEPS", H.x().way(1, 3), 1);
        H.due("c's STEPS", H.x().way(2, 3), 2);
        H.due("STATE 0 came from none", H.x().way(0, 0), -2);
        H.due("b by its first rule", H.x().way(1, 1), 1);
    }

    /** "120 at most (else STOP 2)". */
    private static void statesListed() {
        H.with(DOWN);
        int most = H.term(digits(119));
        H.due("120", H.x().states(most), 120);
        H.due("RESULTS", H.x().count(8), 120);
        H.due("STEPS", H.x().count(10), 119);
        H.due("the last one", H.x().way(119, 2), 119);
        H.due("none behind it", H.x().way(120, 2), -1);
        int more = H.term(digits(120));
        H.stopped("121", () -> H.x().states(more), 2);
        H.due("STEPS", H.x().count(10), 120);
        H.due("RESULTS of the latest that was not stopped", H.x().way(119, 0), 118);
        H.with(DOWN + "rl x : t ( 0 , 0 ) => t ( s s s s s s s s s s s 0 , s s s s s s s s s 0 ) .");
        H.due("120 in a ring", H.x().states(H.term(digits(119))), 120);
        H.due("STEPS", H.x().count(10), 120);
        H.due("from the middle", H.x().states(H.term(digits(40))), 120);
        H.due("one alone", H.x().states(H.term("z")), 1);
        H.due("a variable", H.x().states(H.term("S")), 1);
        H.due("its STEPS", H.x().way(0, 3), 0);
    }

    /** search: "The least RESULT of states() from i on .. NONE: none. BAD: no such handle, i; the RESULTS are no STATES." */
    private static void searched() {
        H.with(DOWN);
        int t = H.term(digits(11));
        int p = H.term("t ( N , 0 )");
        int none = H.term("z");
        int other = H.term("q");
        H.refused("no RESULTS", () -> H.x().search(p, 0), -1);
        H.x().steps(t);
        H.refused("of steps()", () -> H.x().search(p, 0), -1);
        H.x().match(t, t, false);
        H.refused("of match()", () -> H.x().search(p, 0), -1);
        H.strategy(t, "r");
        H.refused("of strategy()", () -> H.x().search(p, 0), -1);
        H.x().states(t);
        H.due("the least", H.x().search(p, 0), 1);
        H.due("from it on", H.x().search(p, 1), 1);
        H.due("behind it", H.x().search(p, 2), 11);
        H.due("the last", H.x().search(p, 11), 11);
        H.refused("none", () -> H.x().search(none, 0), -2);
        H.refused("none from the last on", () -> H.x().search(t, 11), -2);
        H.refused("of another KIND", () -> H.x().search(other, 0), -2);
        for (int i : new int[] {-1, 12, 120, Integer.MIN_VALUE, Integer.MAX_VALUE}) {
            H.due("search(p, " + i + ")", H.x().search(p, i), -1);
        }
        for (int h : new int[] {-1, 4, 200, Integer.MIN_VALUE, Integer.MAX_VALUE}) {
            H.due("search(" + h + ", 0)", H.x().search(h, 0), -1);
        }
    }

    /** law: "BAD: no such law, handles (q counts for leads alone); the RESULTS are no STATES". */
    private static void laws() {
        H.with(DOWN);
        int t = H.term(digits(11));
        int p = H.term("t ( N , 0 )");
        int other = H.term("q");
        H.refused("no RESULTS", () -> H.x().law(0, p, p), -1);
        H.x().steps(t);
        H.refused("of steps()", () -> H.x().law(0, p, p), -1);
        H.x().states(t);
        for (int law : new int[] {-1, 4, Integer.MIN_VALUE, Integer.MAX_VALUE}) {
            H.due("law " + law, H.x().law(law, p, p), -1);
        }
        for (int h : new int[] {-1, 3, 200, Integer.MIN_VALUE, Integer.MAX_VALUE}) {
            for (int law = 0; law < 4; law++) {
                H.due("P " + h, H.x().law(law, h, p), -1);
                int got = H.x().law(law, p, h);
                H.due("Q " + h, got == -1 ? 1 : 0, law == 3 ? 1 : 0);
            }
        }
        // 11, 10, 9 .. 0: P are 10 (STATE 1) and 0 (STATE 11)
        H.due("always: the least that is not", H.x().law(0, p, 0), -10);
        H.due("never: the least that is", H.x().law(1, p, 0), -11);
        H.due("must", H.x().law(2, p, 0), 1);
        H.due("of another KIND: always", H.x().law(0, other, 0), -10);
        H.due("of another KIND: never", H.x().law(1, other, 0), 1);
        H.due("of another KIND: must", H.x().law(2, other, 0), -10);
        H.due("of another KIND: leads from it", H.x().law(3, other, p), 1);
        H.due("of another KIND: leads to it", H.x().law(3, p, other), -11);
        H.due("leads to the last", H.x().law(3, p, H.term(digits(0))), 1);
        H.due("leads from the last: it is both", H.x().law(3, H.term(digits(0)), p), 1);
        H.due("leads to what is ahead", H.x().law(3, p, t), -11);
        H.due("the last breaks it", H.x().law(3, H.term(digits(0)), t), -21);
        H.due("the last breaks it", H.x().law(1, H.term(digits(0)), 0), -21);
        H.due("no STOP", H.x().count(9), 0);
        H.with(DOWN);
        H.x().states(H.term(digits(119)));
        H.due("the 120th breaks it", H.x().law(1, H.term(digits(0)), 0), -129);
        H.due("all but the 120th", H.x().law(0, H.term("t ( N , M )"), 0), 1);
    }

    /** LAWS where rows of steps are short: one STATE without STEPS, one that goes on without end, both. */
    private static void lawsOfOne() {
        String text = "sort S . op a : -> S . op b : -> S . op c : -> S . var S : S . ";
        String[] rules = {"", "rl r : a => a .", "rl r : a => b .", "rl r : a => a . rl r : a => b .", "rl r : a => b . rl r : b => a .", "rl r : a => b . rl r : b => b .", "rl r : a => b . rl r : a => c . rl r : b => c ."};
        // of each: must a, must b, must c, leads a to b, leads b to a, leads a to c, leads S to c
        int[][] due = {{1, -10, -10, -10, 1, -10, -10}, {1, -10, -10, -10, 1, -10, -10}, {1, 1, -10, 1, -11, -10, -10}, {1, -10, -10, -10, -11, -10, -10}, {1, 1, -10, 1, 1, -10, -10}, {1, 1, -10, 1, -11, -10, -10},
            {1, -10, 1, -10, -11, 1, 1}};
        for (int k = 0; k < rules.length; k++) {
            H.with(text + rules[k]);
            int a = H.term("a");
            int b = H.term("b");
            int c = H.term("c");
            int any = H.term("S");
            H.x().states(a);
            int[] got = {H.x().law(2, a, 0), H.x().law(2, b, 0), H.x().law(2, c, 0), H.x().law(3, a, b), H.x().law(3, b, a), H.x().law(3, a, c), H.x().law(3, any, c)};
            for (int i = 0; i < got.length; i++) {
                H.due(rules[k] + " law " + i, got[i], due[k][i]);
            }
        }
    }

    /** strategy: "BAD: no such handle (the tape stays); - 10 less a FAULT: 1 (another WORD than can stand there; a LABEL that no rule has), 2." */
    private static void strategiesRefused() {
        H.with(DOWN);
        int t = H.term(digits(2));
        H.x().states(t);
        for (int h : new int[] {-1, 1, 200, Integer.MIN_VALUE, Integer.MAX_VALUE}) {
            H.feed("                    ");
            H.refused("strategy(" + h + ")", () -> H.x().strategy(h), -1);
        }
        H.due("the tape stays", H.x().end(20), 100);
        H.x().term();
        String[] wrong = {"", "@", "@x", "r ; @x", "@R", "@rr", "r @r", "r ; @; r", "r | @", "@| r", "( @)", "( r @", "r @)", "not @r", "not ( @)", "one @idle", "r * @( r )", "@* r", "@!", "@[ r ]", "r @,", "@. r", "idle @fail", "@t ( N )", "all @all"};
        for (String text : wrong) {
            if (!text.contains("@")) {
                continue;
            }
            String before = H.x().count(8) + " " + H.x().count(9) + " " + H.x().count(10) + " " + H.x().way(2, 2);
            H.due(text, H.strategy(t, text.replace("@", "")), -11);
            H.due(text + " place", H.x().fault(0), text.indexOf('@'));
            H.due(text + " leaves all", H.x().count(8) + " " + H.x().count(9) + " " + H.x().count(10) + " " + H.x().way(2, 2), before);
            H.spare(60);
            if (H.x().count(8) == 0) {
                H.term(digits(2));
                H.x().states(t);
            }
        }
    }

    /** "(60 WORDS.)" */
    private static void strategyWords() {
        H.with(DOWN);
        int t = H.term(digits(2));
        H.due("59", H.strategy(t, "r " + "| r ".repeat(29)), 1);
        H.due("60", H.strategy(t, "r * " + "| r ".repeat(29)), 3);
        H.due("61", H.strategy(t, "r " + "| r ".repeat(30)), -12);
        H.due("at the 61st", H.x().fault(0), 2 + 4 * 29 + 2);
        H.due("60 and a remark", H.strategy(t, "r * " + "| r ".repeat(29) + "*** r r r\n"), 3);
        H.due("60, unfinished", H.strategy(t, "r ; ".repeat(30)), -11);
        H.due("at the end", H.x().fault(0), 120);
        H.due("61, another WORD than can stand there", H.strategy(t, "r * " + "| r ".repeat(29) + "r"), -11);
        H.due("at it", H.x().fault(0), 4 + 4 * 29);
        H.due("61, a WORD that can", H.strategy(t, "r * " + "| r ".repeat(29) + "*"), -12);
        H.due("at it", H.x().fault(0), 4 + 4 * 29);
        H.due("200", H.strategy(t, "r " + "| r ".repeat(100)), -12);
        H.due("at the 61st", H.x().fault(0), 2 + 4 * 29 + 2);
    }

    /** "C is idle, fail, all, a LABEL, ( S ), not ( S ), one ( S )": not and one without ( behind them are LABELS like others. */
    private static void strategyLabels() {
        String sorts = "sort S . op a : -> S . op b : -> S . op c : -> S . op d : -> S . ";
        String both = sorts + "rl not : a => b . rl one : b => c . rl one : a => c . rl not : a => d . rl x : d => a . ";
        String[][] texts = {{"not", "b; d"}, {"one", "c"}, {"not ; one", "c"}, {"one ; not", ""}, {"not | one", "b; d; c"}, {"one | not", "c; b; d"}, {"( not )", "b; d"}, {"( one ) ; idle", "c"},
            {"not *", "a; b; d"}, {"one *", "a; c"}, {"not !", "b; d"}, {"not ; one !", "c; d"}, {"not ( not )", ""}, {"not ( one ; one )", "a"}, {"one ( not )", "b"}, {"one ( one )", "c"}, {"not ( not ( one ) )", "a"},
            {"one ( not ( not ) | not )", "b"}, {"( not ; x ) * ; not", "b; d"}, {"x | not", "b; d"}, {"not\n*** (\n", "b; d"}};
        for (String[] two : texts) {
            H.with(both);
            String text = two[0].replace("\\n", "\n");
            H.due(text, H.strategy(H.term("a"), text), two[1].isEmpty() ? 0 : two[1].split(";").length);
            H.due(text + " place", H.x().fault(0), -2);
            H.due(text, H.results(), two[1]);
        }
        H.with(both);
        int t = H.term("a");
        for (String text : new String[] {"not @not", "not @idle", "one @not ( x )", "not ( @)", "( not @", "one * @one", "not ; @", "not @. x", "not @x", "not ( not @one )", "one @[ x ]"}) {
            H.due(text, H.strategy(t, text.replace("@", "")), -11);
            H.due(text + " place", H.x().fault(0), text.indexOf('@'));
        }
        H.due("60 WORDS", H.strategy(t, "one ; " + "not | ".repeat(28) + "not *"), 3);
        H.due("the 60th and one more", H.strategy(t, "one * ; " + "not | ".repeat(28) + "not *"), -12);
        H.due("at the 61st", H.x().fault(0), 8 + 6 * 28 + 4);
        H.due("a LABEL as the 61st", H.strategy(t, "x | ".repeat(30) + "not"), -12);
        H.due("at it", H.x().fault(0), 120);
        // what no rule has is no LABEL: ( has to stand behind it
        H.with(sorts + "rl not : a => b .");
        t = H.term("a");
        H.due("not", H.strategy(t, "not"), 1);
        for (String text : new String[] {"one @", "one @; not", "not | one @*", "one @not", "( one @)", "one @one ( not )"}) {
            H.due(text, H.strategy(t, text.replace("@", "")), -11);
            H.due(text + " place", H.x().fault(0), text.indexOf('@'));
        }
        H.due("not ( one ( not ) )", H.strategy(t, "not ( one ( not ) )"), 0);
    }

    /** "60 at most in each list (else STOP 2)", whatever is made of it. */
    private static void answersListed() {
        H.with(DOWN + "rl x : z => d .");
        int most = H.term(digits(59));
        int more = H.term(digits(60));
        H.due("*: 60", H.strategy(most, "r *"), 60);
        H.due("*: 61", H.strategy(more, "r *"), -22);
        H.due("RESULTS stay", H.x().count(8), 60);
        H.due("!: one of 60", H.strategy(most, "r !"), 1);
        H.due("!: one of 61", H.strategy(more, "r !"), -22);
        H.due("* of *", H.strategy(H.term(digits(9)), "r * *"), 10);
        H.due("one of 60", H.strategy(most, "one ( r * )"), 1);
        H.due("one of 61", H.strategy(more, "one ( r * )"), -22);
        H.due("not of 60", H.strategy(most, "not ( r * )"), 0);
        H.due("not of 61", H.strategy(more, "not ( r * )"), -22);
        H.due("*, behind one step: 60", H.strategy(more, "r ; r *"), 60);
        String[] plans = {"fst | fst ; r", "fst ; ( idle | r )", "fst ; r | fst", "( fst | snd ) ; r", "( fst | snd ) ; r | idle", "fst ; r | snd ; r", "fst ; r | fail | fst ; r", "fst ; r ; idle", "fst ; ( r | r )", "not ( fst ; r | idle )", "one ( fst ; r | idle )", "fst ; one ( r )", "( fst | snd ) ; r ; idle"};
        int[] due = {-22, -22, -22, 60, -22, 60, 60, 60, 60, -22, -22, 1, 60};
        H.with(CUTS + "rl r : other => k ( nil , a b , nil ) .");
        listed(plans, due);
        int[] dueThen = {-22, -22, -22, -22, -22, -22, 60, 60, 60, -22, -22, 1, -22};
        H.with(CUTS + "rl r : other => z .");
        listed(plans, dueThen);
    }

    private static void listed(String[] plans, int[] due) {
        int h = H.term("h");
        for (int k = 0; k < plans.length; k++) {
            H.due(plans[k], H.strategy(h, plans[k]), due[k]);
        }
    }

    /** "RESULTS are those of the latest of these calls that was not stopped, nor BAD, nor had a FAULT." */
    private static void latestResults() {
        H.with(DOWN + "eq d = d .");
        int t = H.term(digits(3));
        int p = H.term("t ( N , M )");
        int d = H.term("d");
        H.due("states", H.x().states(t), 4);
        H.due("reduce() has none", H.x().reduce(t) >= 0 ? 1 : 0, 1);
        H.due("search() has none", H.x().search(p, 0), 0);
        H.due("law() has none", H.x().law(0, p, 0), 1);
        H.x().result(0);
        H.x().bound(0, 0);
        H.x().pairs(0);
        H.x().check(0);
        H.due("STATES still", H.x().way(3, 2), 3);
        H.stopped("states() stopped", () -> H.x().states(d), 1);
        H.stopped("steps() stopped", () -> H.x().steps(d), 1);
        H.due("match() BAD", H.x().match(t, 99, false), -1);
        H.due("steps() BAD", H.x().steps(99), -1);
        H.due("strategy() BAD", H.x().strategy(99), -1);
        H.due("strategy() with a FAULT", H.strategy(t, "zz"), -11);
        H.due("STATES still", H.x().way(3, 2), 3);
        H.due("match", H.x().match(p, t, false), 1);
        H.due("no STATES any more", H.x().way(3, 2), -1);
        H.due("a term leaves them", H.term("zz"), -16);
        H.due("MATCHERS still", H.x().bound(0, 0) >= 0 ? 1 : 0, 1);
        H.due("none at all are RESULTS, too", H.x().steps(H.term("z")), 0);
        H.due("no MATCHERS any more", H.x().bound(0, 0), -1);
        H.due("how many", H.x().count(8), 0);
        H.due("STATES", H.x().states(t), 4);
        H.module("sort A . op a : -> A .");
        H.due("a module has none", H.x().count(8), 0);
        H.due("no STATES any more", H.x().way(0, 2), -1);
        int a = H.term("a");
        for (int law = 0; law < 4; law++) {
            H.due("the RESULTS are no STATES", H.x().law(law, a, a), -1);
        }
        H.due("the RESULTS are no STATES", H.x().search(a, 0), -1);
    }

    /** count(10): "STEPS of the latest reduce(), steps(), states(), strategy() that came to REDUCING (stopped ones, too)"; count(9): "the latest STOP (0: none since the module)". */
    private static void stepsCounted() {
        H.with(DOWN + "op f : S -> S . eq f ( S ) = S . eq d = d .");
        H.due("none", H.x().count(10), 0);
        int t = H.term("f ( " + digits(3) + " )");
        H.x().states(t);
        H.due("states()", H.x().count(10), 4);
        H.due("BAD", H.x().reduce(99) + H.x().steps(99) + H.x().states(99) + H.x().strategy(99), -4);
        H.due("a FAULT", H.strategy(t, "zz"), -11);
        H.x().match(t, t, false);
        H.x().search(t, 0);
        H.x().pairs(0);
        H.due("those of the latest that came to REDUCING", H.x().count(10), 4);
        H.x().steps(t);
        H.due("steps()", H.x().count(10), 2);
        H.strategy(t, "r ; r | r");
        H.due("strategy()", H.x().count(10), 4);
        H.strategy(t, "idle");
        H.due("strategy()", H.x().count(10), 1);
        H.x().reduce(t);
        H.due("reduce()", H.x().count(10), 1);
        H.x().reduce(H.term("z"));
        H.due("reduce() of what is at REST", H.x().count(10), 0);
        H.due("no STOP", H.x().count(9), 0);
        H.due("stopped", H.x().reduce(H.term("d")), -21);
        H.due("stopped ones, too", H.x().count(10), 601);
        H.due("STOP", H.x().count(9), 1);
        H.x().reduce(t);
        H.due("STEPS of the latest", H.x().count(10), 1);
        H.due("the latest STOP stays", H.x().count(9), 1);
        H.due("a module with a FAULT", H.module("sort"), -11);
        H.due("none since the module", H.x().count(9), 0);
    }
}
