/** 4 REDUCING: each STOP at its limit and one beyond it, in the calls that meet it, and which is met first. */
final class StopEdgesTest {
    private static final House H = new House("edges of STOPS");

    public static void main(String[] args) {
        stepsOfReduce();
        stepsOfSteps();
        stepsOfStates();
        stepsOfStrategy();
        lists();
        wideRows();
        matchers();
        matchersOfLaws();
        deals();
        deepConditions();
        deepRules();
        sizes();
        sizesOfRules();
        filled();
        filledByTakes();
        filledByRules();
        whichFirst();
        nothingMade();
        begunAnew();
        behindStops();
        listsInLists();
        System.exit(House.ending());
    }

    private static String times(String what, int n) {
        return what.repeat(n);
    }

    private static String numbered(int from, int to, String each) {
        StringBuilder text = new StringBuilder();
        for (int k = from; k <= to; k++) {
            text.append(each.replace("#", "" + k));
        }
        return text.toString();
    }

    /** Counts down from three digits, a STEP each. */
    private static final String COUNTER = "sort N T . op 0 : -> N . op s_ : N -> N . op t : N N N -> T . op ok : -> T . op d : -> N . op p : T -> T . var X Y Z : N . var T : T . eq t ( X , Y , s Z ) = t ( X , Y , Z ) ."
            + " eq t ( X , s Y , 0 ) = t ( X , Y , s s s s s s s s s 0 ) . eq t ( s X , 0 , 0 ) = t ( X , s s s s s s s s s 0 , s s s s s s s s s 0 ) . eq d = 0 . ";

    private static String counter(int number) {
        return "t ( " + times("s ", number / 100) + "0 , " + times("s ", number / 10 % 10) + "0 , " + times("s ", number % 10) + "0 )";
    }

    /** A call that comes to its end with so many STEPS. */
    private static void ends(String call, int got, int want, int steps) {
        H.due(call, got, want);
        H.due(call + ": STEPS", H.x().count(10), steps);
        H.due(call + ": no STOP", H.x().count(9), 0);
    }

    private static void stops(String call, java.util.function.IntSupplier asked, int stop, int steps) {
        H.stopped(call, asked, stop);
        H.due(call + ": STEPS", H.x().count(10), steps);
    }

    /** "1 more than 600 STEPS in it". */
    private static void stepsOfReduce() {
        H.with(COUNTER);
        int most = H.term(counter(600));
        ends("600", H.x().reduce(most), 1, 600);
        H.dueTerm("REDUCED", 1, "t ( 0 , 0 , 0 )");
        int more = H.term(counter(601));
        stops("601", () -> H.x().reduce(more), 1, 601);
        // counted in the whole call, in rows, and in what came of them
        int inside = H.term("p ( t ( s s s s s s 0 , 0 , d ) )");
        stops("1 and 600", () -> H.x().reduce(inside), 1, 601);
    }

    private static void stepsOfSteps() {
        H.with(COUNTER + times("rl r : t ( 0 , 0 , 0 ) => ok . ", 30));
        int most = H.term(counter(570));
        ends("570 and 30", H.x().steps(most), 1, 600);
        int more = H.term(counter(571));
        stops("571 and 30", () -> H.x().steps(more), 1, 601);
    }

    /** Ten constants in a ring, three rules each: 100 STATES with two times three STEPS each. */
    private static void stepsOfStates() {
        StringBuilder text = new StringBuilder("sort A K . op k : A A -> K . op d : -> A . " + numbered(0, 9, "op a# : -> A . ") + "eq d = a0 . ");
        for (int k = 0; k < 10; k++) {
            text.append(times("rl r : a" + k + " => a" + (k + 1) % 10 + " . ", 3));
        }
        H.with(text.toString());
        int most = H.term("k ( a0 , a0 )");
        ends("600", H.x().states(most), 100, 600);
        int more = H.term("k ( d , a0 )");
        stops("1 and 600", () -> H.x().states(more), 1, 601);
    }

    /** Two constants in a ring, 15 rules each: all has 30 STEPS, all * has 120 for 4 terms, and again for each. */
    private static void stepsOfStrategy() {
        H.with("sort A K . op k : A A -> K . op a : -> A . op b : -> A . op d : -> A . eq d = a . " + times("rl r : a => b . rl r : b => a . ", 15));
        int most = H.term("k ( a , a )");
        ends("600", H.strategy(most, "all * ; all *"), 4, 600);
        ends("120", H.strategy(most, "all *"), 4, 120);
        int more = H.term("k ( d , a )");
        H.feed("all * ; all *");
        H.due("1 and 600", H.x().strategy(more), -21);
        H.due("STEPS", H.x().count(10), 601);
        H.due("RESULTS stay", H.x().count(8), 4);
    }

    /** Rows of _ _ have as many matchers with one term as they have variables, and cost no DEALS. */
    private static final String FREE = "sort A K N S . op e : -> A . op a : -> A . op b : -> A . op c : -> A . op _ _ : A A -> A [ id e ] . op k : A A A -> K . op o : -> K . op m : K K -> K [ comm ] . op g : -> A . op z : K -> K ."
            + " op 0 : -> N . op s_ : N -> N . op t : N N K -> S . var P Q R S T U V W X Y A B C D E F G H : A . var K L : K . var N M : N . ";
    private static final String TWO_HUNDRED = "k ( P Q R S T , U V W X Y , A B C D E F G H )";

    /** "2 a list is too long": of an equation, of T := U, of a rule. */
    private static void lists() {
        String wide = "m ( " + TWO_HUNDRED + " , L )";
        String most = "m ( k ( a , b , c ) , o )";
        String more = "m ( k ( a , b , c ) , k ( e , e , e ) )";
        H.with(FREE + "eq " + wide + " = o .");
        ends("200 of an equation", H.x().reduce(H.term(most)), 1, 1);
        int one = H.term(more);
        stops("201", () -> H.x().reduce(one), 2, 0);
        H.with(FREE + "eq z ( K ) = o if " + wide + " := K .");
        ends("200 of T := U", H.x().reduce(H.term("z ( " + most + " )")), 1, 1);
        int two = H.term("z ( " + more + " )");
        stops("201", () -> H.x().reduce(two), 2, 0);
        H.with(FREE + "rl r : " + wide + " => o .");
        ends("200 of a rule", H.x().steps(H.term(most)), 1, 200);
        int three = H.term(more);
        stops("201", () -> H.x().steps(three), 2, 0);
        stops("201", () -> H.x().states(three), 2, 0);
        H.feed("r");
        stops("201", () -> strategyWith(three, "r"), 2, 0);
    }

    /** A strategy whose text is put on the tape anew each time, so that the tape is as it was. */
    private static int strategyWith(int h, String text) {
        int got = H.x().strategy(h);
        H.feed(text);
        return got;
    }

    /** "3 WIDE". */
    private static void wideRows() {
        String base = "sort T B . subsort T < B . op __ : B B -> B [ assoc comm ] . op a : -> T . op f : B -> T . op g : B -> T . var B : B . var T : T . ";
        String six = "f ( a a a a a a )";
        String seven = "f ( a a a a a a a )";
        H.with(base + "eq f ( T B ) = a .");
        ends("6 of an equation", H.x().reduce(H.term(six)), 1, 1);
        int one = H.term(seven);
        stops("7", () -> H.x().reduce(one), 3, 0);
        H.with(base + "var C : B . eq f ( B ) = a if T C := B .");
        ends("6 of T := U", H.x().reduce(H.term(six)), 1, 1);
        int two = H.term(seven);
        stops("7", () -> H.x().reduce(two), 3, 0);
        H.with(base + "rl r : f ( T B ) => a .");
        ends("6 of a rule", H.x().steps(H.term(six)), 1, 1);
        int three = H.term(seven);
        stops("7", () -> H.x().steps(three), 3, 0);
        // the places of a TERM are asked from the whole on; that of another rule only if it is asked
        H.with(base + "rl q : g ( B ) => a . rl r : g ( T B ) => a .");
        int four = H.term(seven.replace("f", "g"));
        H.due("rules with another LABEL are not asked", H.strategy(four, "q"), 1);
        H.feed("r");
        stops("7", () -> strategyWith(four, "r"), 3, 0);
    }

    private static final String ROW_OF_MATCHERS = FREE + "eq g = a . eq t ( N , s M , " + TWO_HUNDRED + " ) = t ( N , M , " + TWO_HUNDRED + " ) . eq t ( s N , 0 , " + TWO_HUNDRED + " ) = t ( N , s s 0 , " + TWO_HUNDRED + " ) . ";

    /** "4 more than 6,000 MATCHERS listed in it (whole lists count)": 200 for each STEP. */
    private static void matchers() {
        String digits = "t ( " + times("s ", 8) + "0 , " + times("s ", 6) + "0 , ";
        String fewer = "t ( " + times("s ", 8) + "0 , " + times("s ", 5) + "0 , ";
        H.with(ROW_OF_MATCHERS);
        ends("30 times 200", H.x().reduce(H.term(digits + "k ( a , b , c ) )")), 1, 30);
        int one = H.term(digits + "k ( g , b , c ) )");
        stops("1, and 30 times 200", () -> H.x().reduce(one), 4, 30);
        int two = H.term(digits.replace("( s", "( s s") + "k ( a , b , c ) )");
        stops("33 times 200", () -> H.x().reduce(two), 4, 30);
        // a list that is too long is no whole one: 29 times 200, 1, then 200 or 201
        H.with(ROW_OF_MATCHERS + "op _r_ : S K -> S . op h : -> K . op i : -> K . eq h = m ( k ( a , b , c ) , o ) . eq i = m ( k ( a , b , c ) , k ( e , e , e ) ) . eq m ( " + TWO_HUNDRED + " , L ) = o .");
        int three = H.term(fewer + "k ( a , b , c ) ) r h");
        stops("200 more", () -> H.x().reduce(three), 4, 30);
        int four = H.term(fewer + "k ( a , b , c ) ) r i");
        stops("201 more", () -> H.x().reduce(four), 2, 30);
    }

    private static void matchersOfLaws() {
        String rules = "rl r : t ( N , s M , K ) => t ( N , M , K ) . rl r : t ( s N , 0 , K ) => t ( N , s s 0 , K ) . ";
        String digits = "t ( " + times("s ", 8) + "0 , " + times("s ", 5) + "0 , k ( a , b , c ) )";
        String pattern = "t ( N , M , " + TWO_HUNDRED + " )";
        H.with(FREE + rules);
        H.due("STATES", H.x().states(H.term(digits)), 30);
        int p = H.term(pattern);
        H.due("6,000: always", H.x().law(0, p, 0), 1);
        H.due("6,000: never", H.x().law(1, p, 0), -10);
        H.due("6,000: must", H.x().law(2, p, 0), 1);
        H.due("no STOP", H.x().count(9), 0);
        int other = H.term("t ( N , M , o )");
        H.due("6,000 for Q, none for P", H.x().law(3, other, p), 1);
        H.due("6,000 for P, none for Q", H.x().law(3, p, other), -10);
        H.due("6,000 for P, as many for Q", H.x().law(3, p, p), -1004);
        H.due("the latest STOP", H.x().count(9), 4);
        H.due("RESULTS stay", H.x().count(8), 30);
        H.due("search() lists up to the first", H.x().search(p, 0), 0);
        H.with(FREE + rules + "rl r : t ( 0 , 0 , k ( a , b , c ) ) => t ( 0 , 0 , k ( e , e , e ) ) .");
        H.due("STATES", H.x().states(H.term(digits)), 31);
        int q = H.term(pattern);
        for (int law = 0; law < 3; law++) {
            H.due("6,001", H.x().law(law, q, 0), -1004);
        }
        H.due("6,001 for Q", H.x().law(3, H.term("t ( N , M , o )"), q), -1004);
    }

    /** "or more than 300,000 DEALS (of all lists that were asked, together)": equations over comm rows, 2 for each. */
    private static void deals() {
        StringBuilder text = new StringBuilder("sort A G . op a : -> A . op _ _ : A A -> A [ comm ] . op go : -> G . op h : G -> G . var G : G . ");
        for (int rows : new int[] {18, 15, 12, 9, 8, 7, 6, 5}) {
            text.append("eq ").append(times("a ", rows)).append("a = a . ");
        }
        H.with(text.toString());
        ends("300,000 for one term of another KIND", H.x().reduce(H.term("go")), 1, 0);
        int two = H.term("h ( go )");
        stops("twice", () -> H.x().reduce(two), 4, 0);
        ends0("a variable is not asked", H.x().reduce(H.term("G")));
        ends0("each call begins anew", H.x().reduce(0));
        // those asked of variables' places by rules count, too
        H.with(text + "eq a = a a .");
        int one = H.term("go");
        stops("300,001", () -> H.x().reduce(one), 4, 0);
        String rules = text.toString().replace("eq", "rl r :").replace("= a .", "=> a .");
        H.with(rules);
        ends("300,000 by rules", H.x().steps(H.term("go")), 0, 0);
        ends("300,000 for a variable by rules", H.x().steps(H.term("G")), 0, 0);
        int deeper = H.term("h ( G )");
        stops("a variable in it is a place, too", () -> H.x().steps(deeper), 4, 0);
        H.due("one LABEL", H.strategy(0, "r"), 0);
        H.with(rules + "rl q : a => a a .");
        int last = H.term("go");
        stops("300,001 by rules", () -> H.x().steps(last), 4, 0);
        H.due("only those with the LABEL", H.strategy(last, "r"), 0);
        H.due("only those with the LABEL", H.strategy(last, "q ; r"), 0);
        H.due("r, then q", H.strategy(last, "r | q"), -24);
    }

    private static void ends0(String call, int got) {
        H.due(call, got >= 0 ? 1 : got, 1);
    }

    /** Conditions in one another, as many as two digits tell; the last one asks for f ( k ), or f of what was carried. */
    private static final String DEEP = "sort N T Q . op 0 : -> N . op s_ : N -> N . op ok : -> T . op c : N N Q -> T . op f : Q -> T . op k : -> Q . op j : -> Q . op own : -> Q . op p : Q T -> T . op go : -> T . var X Y : N . var Q V : Q ."
            + " eq c ( X , s Y , Q ) = ok if c ( X , Y , Q ) = ok . eq c ( s X , 0 , Q ) = ok if c ( X , s s s s s s s s s 0 , Q ) = ok ."
            + " eq c ( 0 , 0 , own ) = ok if f ( k ) = ok . eq c ( 0 , 0 , Q ) = ok if f ( Q ) = ok . eq f ( Q ) = ok . ";

    private static String deep(int many, String carried) {
        return "c ( " + times("s ", many / 10) + "0 , " + times("s ", many % 10) + "0 , " + carried + " )";
    }

    /** "5 REDUCING more than 60 deep in REDUCING (.. variables, and what is at REST already, are not asked)". */
    private static void deepConditions() {
        H.with(DEEP);
        // c is 0 deep, so many conditions, f one more, k one more
        ends("k is 60 deep", H.x().reduce(H.term(deep(58, "own"))), 1, 60);
        int one = H.term(deep(59, "own"));
        stops("k is 61 deep", () -> H.x().reduce(one), 5, 0);
        int two = H.term(deep(60, "own"));
        stops("f is 61 deep", () -> H.x().reduce(two), 5, 0);
        H.with(DEEP);
        ends("a variable is 61 deep", H.x().reduce(H.term(deep(59, "V"))), 1, 61);
        int three = H.term(deep(60, "V"));
        stops("f of a variable is 61 deep", () -> H.x().reduce(three), 5, 0);
        H.with(DEEP);
        ends("what is at REST is 61 deep", H.x().reduce(H.term(deep(59, "k"))), 1, 61);
        // p is 0 deep, its row 1
        ends("k is 60 deep", H.x().reduce(H.term("p ( j , " + deep(57, "own") + " )")), 3, 59);
        int four = H.term("p ( j , " + deep(58, "own") + " )");
        stops("k is 61 deep", () -> H.x().reduce(four), 5, 0);
        ends0("k is 61 deep, but at REST", H.x().reduce(H.term("p ( k , " + deep(58, "own") + " )")));
        H.due("STEPS", H.x().count(10), 60);
        // each call begins anew
        stops("k is not at REST any more", () -> H.x().reduce(four), 5, 0);
        // g ( w ) is not at REST, but it came to REST: it is not REDUCED anew
        H.with(DEEP.replace("if f ( k ) = ok", "if f ( g ( w ) ) = ok") + "op w : -> Q . op g : Q -> Q . eq w = k .");
        int came = H.term("p ( g ( w ) , " + deep(58, "own") + " )");
        ends0("g ( w ) is 61 deep, but came to REST", H.x().reduce(came));
        int other = H.term("p ( w , " + deep(58, "own") + " )");
        stops("g ( w ) is 61 deep", () -> H.x().reduce(other), 5, 1);
        ends0("g ( w ) is 60 deep, w came to REST", H.x().reduce(H.term("p ( w , " + deep(57, "own") + " )")));
        // "what a call REDUCES .. is 0 deep", whatever call it is
        H.with(DEEP + "rl r : ok => ok .");
        int most = H.term(deep(58, "own"));
        int more = H.term(deep(59, "own"));
        ends("steps()", H.x().steps(most), 1, 61);
        ends("states()", H.x().states(most), 1, 61);
        ends("strategy()", H.strategy(most, "r"), 1, 61);
        stops("steps()", () -> H.x().steps(more), 5, 0);
        stops("states()", () -> H.x().states(more), 5, 0);
        H.feed("r");
        stops("strategy()", () -> strategyWith(more, "r"), 5, 0);
    }

    /** "what a rule makes, is 0 deep .. a T or U in C (of rules, too) each one more". */
    private static void deepRules() {
        for (int many = 56; many <= 60; many++) {
            for (String c : new String[] {"T = ok", "ok = T", "T : T", "U := T"}) {
                H.with(DEEP + "var U : T . rl r : go => ok if " + c.replace("T ", deep(many, "own") + " ").replace(" : " + deep(many, "own") + " ", " : T ").replace("= T", "= " + deep(many, "own")) + " .");
                int go = H.term("go");
                int got = H.x().steps(go);
                H.due(c + " " + many, got, many <= 57 ? 1 : -25);
                // behind a way that another rule has
                H.with(DEEP + "op fine : -> T . rl q : go => fine . rl r : go => ok if " + deep(many, "own") + " = ok .");
                H.due("behind another rule " + many, H.x().steps(H.term("go")), many <= 57 ? 2 : -25);
            }
            H.with(DEEP + "rl r : go => " + deep(many, "own") + " .");
            H.due("what a rule makes " + many, H.x().steps(H.term("go")), many <= 58 ? 1 : -25);
            H.due("what a rule makes by a strategy", H.strategy(0, "r"), many <= 58 ? 1 : -25);
            H.due("a STATE", H.x().states(0), many <= 58 ? 2 : -25);
            H.with(DEEP + "rl r : go => p ( j , " + deep(many, "own") + " ) .");
            H.due("in a row " + many, H.x().steps(H.term("go")), many <= 57 ? 1 : -25);
        }
    }

    /** "6 SIZE above 40": of a right side, with what was beside it, of T and U, of a row with what came of it. */
    private static void sizes() {
        String base = "sort A . op 0 : -> A . op s_ : A -> A . op d : A -> A . op p : A A -> A . op q : A -> A . op ok : -> A . op b : -> A . op w : -> A . op v : -> A . op _&_ : A A -> A [ assoc ] . op _|_ : A A -> A [ assoc comm id 0 ] . var X Y : A . ";
        String[] sides = {"eq d ( X ) = #", "eq d ( X ) = ok if # = ok", "eq d ( X ) = ok if ok = #", "eq d ( X ) = ok if # : A", "eq d ( X ) = ok if Y := #"};
        for (String side : sides) {
            H.with(base + side.replace("#", "q ( p ( X , X ) )") + " .");
            ends0("40: " + side, H.x().reduce(H.term("d ( " + times("s ", 18) + "0 )")));
            H.with(base + side.replace("#", "p ( X , X )") + " .");
            ends0("39: " + side, H.x().reduce(H.term("d ( " + times("s ", 18) + "0 )")));
            int one = H.term("d ( " + times("s ", 19) + "0 )");
            stops("41: " + side, () -> H.x().reduce(one), 6, 0);
        }
        // T of T := U is not made
        H.with(base + "eq d ( X ) = ok if p ( X , X ) := X .");
        H.dueTerm("T is as it is told", H.x().reduce(H.term("d ( " + times("s ", 24) + "0 )")), "d ( " + times("s ", 24) + "0 )");
        // what came of a row: b is 20, w is 19
        String twenty = times("s ", 19) + "0";
        H.with(base + "eq b = " + twenty + " . eq w = " + twenty.substring(2) + " . eq v = 0 .");
        ends("20 and 19", H.x().reduce(H.term("p ( b , w )")), 1, 2);
        H.due("SIZE", H.x().about(1, 0), 40);
        int two = H.term("p ( b , b )");
        stops("20 and 20", () -> H.x().reduce(two), 6, 1);
        ends0("20 and 19 and an id", H.x().reduce(H.term("b | w | v")));
        H.due("SIZE", H.x().about(H.x().count(7) - 1, 0), 40);
        int three = H.term("b | w | b");
        stops("20 and 19 and 20", () -> H.x().reduce(three), 6, 2);
        // with what was beside it: 15 for two, and 24 or 25
        for (String op : new String[] {"&", "|"}) {
            for (String beside : new String[] {"b # b # *", "* # b # b"}) {
                H.with(base.replace(" id 0", "") + "eq b " + op + " b = " + times("s ", 14) + "0 .");
                ends("15 and 24", H.x().reduce(H.term(beside.replace("#", op).replace("*", "( " + times("s ", 23) + "0 )"))), 1, 1);
                H.due("SIZE", H.x().about(1, 0), 40);
                int four = H.term(beside.replace("#", op).replace("*", "( " + times("s ", 24) + "0 )"));
                stops("15 and 25", () -> H.x().reduce(four), 6, 0);
            }
        }
        // 27 and 3 for each of 4 are a row of 39
        H.with("sort A . op a : -> A . op b : -> A . op _ _ : A A -> A [ assoc ] . eq b = a a a .");
        ends("a row of 39", H.x().reduce(H.term(times("a ", 27) + "b b b b")), 1, 1);
        H.due("SIZE", H.x().about(1, 0), 40);
        H.due("its row", H.x().about(1, 4), 39);
        int five = H.term(times("a ", 28) + "b b b b");
        stops("a row of 40", () -> H.x().reduce(five), 6, 1);
    }

    private static void sizesOfRules() {
        String base = "sort A . op 0 : -> A . op s_ : A -> A . op d : A -> A . op p : A A -> A . op q : A -> A . op ok : -> A . var X Y : A . ";
        H.with(base + "rl r : d ( X ) => q ( p ( X , X ) ) .");
        ends("40", H.x().steps(H.term("d ( " + times("s ", 18) + "0 )")), 1, 1);
        H.with(base + "rl r : d ( X ) => p ( X , X ) .");
        int one = H.term("d ( " + times("s ", 19) + "0 )");
        stops("41", () -> H.x().steps(one), 6, 0);
        stops("41 as a STATE", () -> H.x().states(one), 6, 0);
        // the right side there, all of it
        H.with(base + "rl r : d ( X ) => p ( X , X ) .");
        ends("the whole is 40", H.x().steps(H.term("q ( d ( " + times("s ", 18) + "0 ) )")), 1, 1);
        H.due("SIZE", H.x().about(H.x().result(0), 0), 40);
        int two = H.term("q ( q ( d ( " + times("s ", 18) + "0 ) ) )");
        stops("the whole is 41", () -> H.x().steps(two), 6, 0);
        // made ahead of its being REDUCED
        H.with(base + "eq q ( p ( X , Y ) ) = ok . rl r : d ( X ) => p ( X , X ) .");
        ends("the whole is 40, then 1", H.x().steps(H.term("q ( d ( " + times("s ", 18) + "0 ) )")), 1, 2);
        int three = H.term("s q ( d ( " + times("s ", 18) + "0 ) )");
        stops("the whole is 41", () -> H.x().steps(three), 6, 0);
    }

    /** 200 FILLED a STEP: 6 parts of 33 each, and 2. */
    private static final String FILLING = "sort N A . op 0 : -> N . op s_ : N -> N . op a : -> A . op __ : A A -> A . op c : N -> N . op d : -> N . op n : N -> N . var X : N . eq d = 0 . ";

    /** "7 more than 4,000 FILLED in it: .. its SIZE as it is told (a variable is 1 ..), ahead of its being made". */
    private static void filled() {
        String part = times("a ", 17);
        H.with(FILLING + "eq c ( s X ) = c ( X ) if " + times(part + ": A /\\ ", 5) + part + ": A .");
        ends("20 times 200", H.x().reduce(H.term("c ( " + times("s ", 20) + "0 )")), 1, 20);
        int one = H.term("c ( " + times("s ", 20) + "d )");
        stops("1, and 20 times 200", () -> H.x().reduce(one), 7, 20);
        // of T = U each when it is made: 2 times 3 parts
        H.with(FILLING + "eq c ( s X ) = c ( X ) if " + times(part + "= " + part + "/\\ ", 2) + part + "= " + part + ".");
        ends("20 times 200", H.x().reduce(H.term("c ( " + times("s ", 20) + "0 )")), 1, 20);
        int two = H.term("c ( " + times("s ", 20) + "d )");
        stops("1, and 20 times 200", () -> H.x().reduce(two), 7, 20);
        // a C that does not hold has been filled, too, up to the part that does not
        H.with(FILLING + "eq c ( s X ) = n ( X ) if a a = a /\\ a a = a a . eq c ( s X ) = c ( X ) if " + times(part + ": A /\\ ", 5) + times("a ", 15) + ": A .");
        ends("20 times 4 and 196", H.x().reduce(H.term("c ( " + times("s ", 20) + "0 )")), 1, 20);
        int three = H.term("c ( " + times("s ", 20) + "d )");
        stops("1, and 20 times 200", () -> H.x().reduce(three), 7, 20);
    }

    /** "of T := U both, ahead of U". */
    private static void filledByTakes() {
        String part = times("a ", 17);
        String text = FILLING + "op x : -> A . var Y : A . eq c ( s X ) = c ( X ) if " + times(part + ":= " + part + "/\\ ", 2) + part + ":= " + part + ". ";
        H.with(text);
        ends("20 times 200", H.x().reduce(H.term("c ( " + times("s ", 20) + "0 )")), 1, 20);
        int one = H.term("c ( " + times("s ", 20) + "d )");
        stops("1, and 20 times 200", () -> H.x().reduce(one), 7, 20);
        // 198 a STEP; then 39 of T and 1 of U, ahead of U: y has no STEP any more
        String down = "op y : -> A . eq y = a . eq c ( s X ) = c ( X ) if " + times(part + ": A /\\ ", 5) + times("a ", 16) + ": A . eq c ( 0 ) = n ( 0 ) if " + times("a ", 20) + ":= ";
        H.with(FILLING + down + "a .");
        ends("3,960 and 40", H.x().reduce(H.term("c ( " + times("s ", 20) + "0 )")), 1, 20);
        int two = H.term("c ( " + times("s ", 20) + "d )");
        stops("3,961 and 40", () -> H.x().reduce(two), 7, 21);
        H.with(FILLING + down + "y .");
        int three = H.term("c ( " + times("s ", 20) + "d )");
        stops("3,961 and 40", () -> H.x().reduce(three), 7, 21);
    }

    /** "for a STEP BY RULES besides the SIZE of the whole TERM that it makes, ahead of its being REDUCED". */
    private static void filledByRules() {
        StringBuilder text = new StringBuilder("sort A K . op k : A A K -> K . op e : -> K . op u_ : K -> K . op d : -> K . " + numbered(0, 9, "op a# : -> A . ") + "eq d = e . ");
        for (int k = 0; k < 10; k++) {
            text.append("rl r : a").append(k).append(" => a").append((k + 1) % 10).append(" . ");
        }
        H.with(text.toString());
        // 100 STATES with two STEPS each, a right side of 1 and a whole of 19
        ends("200 times 20", H.x().states(H.term("k ( a0 , a0 , " + times("u ", 15) + "e )")), 100, 200);
        int one = H.term("k ( a0 , a0 , " + times("u ", 15) + "d )");
        stops("1, and 200 times 20", () -> H.x().states(one), 7, 200);
        int two = H.term("k ( a0 , a0 , " + times("u ", 16) + "e )");
        stops("200 times 21", () -> H.x().states(two), 7, 190);
    }

    /** "The first that is met counts". */
    private static void whichFirst() {
        // FILLED is ahead of what is made: 398 a STEP, 19 for v, then 5 of a right side that is too big
        String t17 = times("a ", 17);
        H.with(FILLING + "op b : A A A -> N . op u_ : A -> A . op q : A -> N . op p : N N -> N . op v : -> A . var A : A . eq v = " + times("a ", 10) + ". eq q ( A ) = b ( A , A , u A ) . eq c ( s X ) = c ( X ) if "
                + times(t17 + "= " + t17 + "/\\ ", 5) + t17 + "= " + t17 + ".");
        int full = H.term("p ( c ( " + times("s ", 9) + "0 ) , q ( v ) )");
        stops("3,601, and 5 of 59", () -> H.x().reduce(full), 6, 10);
        int fuller = H.term("p ( c ( " + times("s ", 10) + "0 ) , q ( v ) )");
        stops("3,999, and 5 of 59", () -> H.x().reduce(fuller), 7, 11);
        // SIZE is ahead of the STEP, and the STEP ahead of all that follows: the 601st makes 41, or 40
        for (int s = 6; s <= 7; s++) {
            H.with(COUNTER + "op big : T N -> T . op tree : N N N -> T . eq big ( t ( 0 , 0 , 0 ) , X ) = tree ( X , X , s s s X ) .");
            int t = H.term("big ( t ( s s s s s s 0 , 0 , 0 ) , " + times("s ", s + 4) + "0 )");
            stops("the 601st makes " + (s == 6 ? "37" : "40"), () -> H.x().reduce(t), 1, 601);
            int u = H.term("big ( t ( s s s s s s 0 , 0 , 0 ) , " + times("s ", 12) + "0 )");
            stops("the 601st makes 43", () -> H.x().reduce(u), 6, 600);
        }
        // a list is whole ahead of what its first matcher makes
        H.with(ROW_OF_MATCHERS);
        int list = H.term("t ( " + times("s ", 8) + "0 , " + times("s ", 7) + "0 , k ( a , b , c ) )");
        stops("31 times 200", () -> H.x().reduce(list), 4, 30);
        // the 61st STEP BY RULES is the 601st STEP, or the 600th
        String ways = COUNTER + "sort E L . subsort E < L . op x : -> E . op nil : -> L . op __ : L L -> L [ assoc id nil ] . op k : L L L -> T . op z : -> T . var A B C D E F : L ."
                + " rl r : t ( 0 , 0 , 0 ) => k ( A , B , C ) if A D := x x x x x /\\ B E := x x x x /\\ C F := x . rl r : t ( 0 , 0 , 0 ) => z .";
        for (int n = 539; n <= 540; n++) {
            H.with(ways);
            int t = H.term(counter(n));
            int steps = n + 61;
            stops("61 ways behind " + n, () -> H.x().steps(t), n == 539 ? 2 : 1, steps);
        }
        H.with(ways.replace(" rl r : t ( 0 , 0 , 0 ) => z .", ""));
        ends("60 ways", H.x().steps(H.term(counter(540))), 60, 600);
        // STOP 1 in what a rule makes comes ahead of the rule's own STEP
        H.with(COUNTER + "rl r : ok => t ( s s s s s s 0 , 0 , 0 ) . rl q : p ( ok ) => t ( s s s s s 0 , s s s s s s s s s 0 , s s s s s s s s s 0 ) .");
        int ok = H.term("ok");
        stops("600 and the rule's", () -> H.x().steps(ok), 1, 601);
        H.with(COUNTER + "rl r : ok => t ( s s s s s 0 , s s s s s s s s s 0 , s s s s s s s s s 0 ) .");
        ends("599 and the rule's", H.x().steps(H.term("ok")), 1, 600);
    }

    /** "STOPS end a call (nothing is made by it)". */
    private static void nothingMade() {
        H.with(COUNTER + "rl r : ok => " + counter(601) + " . rl q : ok => ok .");
        int t = H.term(counter(601));
        int ok = H.term("ok");
        H.due("a list of RESULTS", H.strategy(ok, "q"), 1);
        H.stopped("reduce()", () -> H.x().reduce(t), 1);
        H.stopped("steps()", () -> H.x().steps(t), 1);
        H.stopped("steps() by a rule", () -> H.x().steps(ok), 1);
        H.stopped("states()", () -> H.x().states(t), 1);
        H.stopped("states() by a rule", () -> H.x().states(ok), 1);
        H.feed("q ; r");
        H.stopped("strategy()", () -> strategyWith(ok, "q ; r"), 1);
        H.x().term();
        H.due("ANSWERS are the RESULTS still", H.x().result(0), 2);
        H.dueTerm("of q", 2, "ok");
    }

    /** What was counted in a call does not count in the next one; nor does what came to REST. */
    private static void begunAnew() {
        H.with(COUNTER);
        H.term(counter(400));
        for (int round = 0; round < 3; round++) {
            ends("400", H.x().reduce(0), round + 1, 400);
        }
        ends("at REST", H.x().reduce(1), 4, 0);
        ends("a variable", H.x().reduce(H.term("X")), 6, 0);
        H.with(ROW_OF_MATCHERS);
        H.term("t ( s s s s s 0 , s s s s s 0 , k ( a , b , c ) )");
        for (int round = 0; round < 3; round++) {
            ends("4,000 MATCHERS", H.x().reduce(0), round + 1, 20);
        }
    }

    /** However many calls were stopped in the middle of something: the next one is answered as if there had been none. */
    private static void behindStops() {
        H.with("sort A . op a : -> A . op b : -> A . op k : A A A -> A . op f : A -> A . op g : A A -> A . var X : A . eq k ( a , X , X ) = k ( b , b , k ( a , X , X ) ) . eq f ( X ) = X .");
        int t = H.term("k ( a , b , b )");
        for (int round = 0; round < 150; round++) {
            H.due("stopped " + round, H.x().reduce(t), -25);
        }
        ends3("not stopped", H.x().reduce(H.term("g ( f ( f ( a ) ) , f ( a ) )")), 1);
        H.dueTerm("at REST", H.x().count(7) - 1, "g ( a , a )");
        H.with(COUNTER + "op g : T T -> T . eq p ( T ) = T .");
        int more = H.term(counter(601));
        for (int round = 0; round < 20; round++) {
            H.due("stopped " + round, H.x().reduce(more), -21);
        }
        ends3("not stopped", H.x().reduce(H.term("g ( p ( p ( ok ) ) , p ( ok ) )")), 1);
        H.dueTerm("at REST", H.x().count(7) - 1, "g ( ok , ok )");
    }

    private static void ends3(String call, int got, int steps) {
        H.due(call, got >= 0 ? 1 : got, 1);
        H.due(call + ": STEPS", H.x().count(10), steps);
    }

    /** 200 MATCHERS are kept for each of 19 conditions in one another. */
    private static void listsInLists() {
        H.with(FREE + "op ok : -> S . op y : N K -> S . eq y ( s N , " + TWO_HUNDRED + " ) = ok if y ( N , k ( a , b , c ) ) = ok . eq y ( 0 , K ) = ok .");
        ends("19 times 200", H.x().reduce(H.term("y ( " + times("s ", 19) + "0 , k ( a , b , c ) )")), 1, 20);
        H.dueTerm("it holds", 1, "ok");
        // the last one does not hold: all 200 are tried, but each asks for what is at REST already
        H.with(FREE + "op ok : -> S . op y : N K -> S . eq y ( s N , " + TWO_HUNDRED + " ) = ok if y ( N , k ( a , b , c ) ) = ok .");
        int t = H.term("y ( s s 0 , k ( a , b , c ) )");
        H.dueTerm("none goes", H.x().reduce(t), "y ( s s 0 , k ( a , b , c ) )");
        H.due("STEPS", H.x().count(10), 0);
    }
}
