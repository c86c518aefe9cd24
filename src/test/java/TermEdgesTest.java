/** Promises 7 to 15, FAULTS 6 to 8, and 2 TERMS: each sentence that names an edge. */
final class TermEdgesTest {
    private static final House H = new House("edges of terms");
    private static final String BASE = "sort A B C . subsort A < B . op a : -> A . op b : -> B . op c : -> C . op f : B -> B . op g : C -> C . op _+_ : B B -> B [ gather & & ] . var X Y : B . var Z : C . ";

    public static void main(String[] args) {
        noReading();
        twoReadings();
        oneReading();
        manyReadings();
        unknownVariables();
        statementOrder();
        sizes();
        rowsOfOneAndNone();
        strengths();
        terms();
        about();
        parts();
        orders();
        printed();
        printedMost();
        forgotten();
        sorts();
        operators();
        leastSorts();
        System.exit(House.ending());
    }

    /** "6 T has no READING (of the KIND that it has to have, where that is known: that of the T left of it, of the SORT)". */
    private static void noReading() {
        H.at(6, BASE + "eq @zz = a .");
        H.at(6, BASE + "eq @f ( c ) = a .");
        H.at(6, BASE + "eq @( ) = a .");
        H.at(6, BASE + "eq @( a = a .");
        H.at(6, BASE + "eq a = @c .");
        H.at(6, BASE + "eq c = @a .");
        H.at(6, BASE + "rl r : a => @c .");
        H.at(6, BASE + "eq a = a if c = @a .");
        H.at(6, BASE + "eq a = a if a = @c .");
        H.at(6, BASE + "eq a = a if X := @c .");
        H.at(6, BASE + "eq a = a if Z := @a .");
        H.at(6, BASE + "eq a = a if @c : A .");
        H.at(6, BASE + "eq a = a if @a : C .");
        H.good(BASE + "eq a = b if c = c /\\ Z := c /\\ b : A /\\ c : C .", 6);
        // a KIND that is not known takes all; one that is known takes one of two
        String both = "sort A C . op a : -> A . op k : -> C . var a : C . op f : A -> A . op h : C -> C . ";
        H.at(7, both + "eq @a = a .");
        H.good(both + "eq f ( a ) = a .", 4);
        H.good(both + "eq h ( a ) = a .", 4);
        H.at(7, both + "eq k = k if @a = k .");
        H.good(both + "eq h ( a ) = k if k = a /\\ a : C .", 4);
        H.good(both + "eq k = k if a : A .", 4);
        H.at(7, both + "eq k = k if @a := k .");
        H.good(both + "eq h ( a ) = k if k := a .", 4);
    }

    /** "7 two"; DOUBT of a term. */
    private static void twoReadings() {
        H.good(BASE + "eq a + a = a .", 6);
        H.at(7, BASE + "eq @a + a + a = a .");
        H.at(7, BASE + "eq a = @a + b + a .");
        H.at(7, BASE + "eq a = a if @a + a + a = a .");
        H.at(7, BASE + "eq a = a if a = @a + a + a .");
        H.at(7, BASE + "eq a = a if @a + a + a : A .");
        H.at(7, BASE + "eq a = a if @X + X + X := a .");
        H.at(7, BASE + "rl r : @a + a + a => a .");
        H.good(BASE + "eq ( a + a ) + a = a + ( a + a ) .", 6);
        // two readings that are one term are two
        H.with("sort A . op a : -> A . op _+_ : A A -> A [ assoc gather & & ] .");
        H.due("one", H.term("a + a"), 0);
        H.due("two", H.term("a + a + a"), -4);
        H.due("one of two", H.term("( a + a ) + a"), 1);
        H.due("the same", H.x().order(1, H.term("a + ( a + a )")), 0);
        H.due("two in brackets", H.term("( a + a + a )"), -4);
        H.due("very many", H.term("a + a + a + a + a + a + a + a + a + a + a + a + a + a + a + a"), -4);
    }

    /** What the one READING is, where some of its words could be read in other ways. */
    private static void oneReading() {
        H.with("sort A C . op a : -> A . var a : C . op f : A -> A . op h : C -> C . op c : -> C . op k_k : A -> A [ prec 5 ] . op k_k : C -> C [ prec 6 ] . op l_l : C -> C [ prec 3 gather e ] . op m_m : A -> A [ prec 7 gather e ] .");
        int[][] due = {{-2, 0}, {0, -2}};
        String[] texts = {"f ( a )", "h ( a )", "f ( ( ( a ) ) )", "h ( ( a ) )", "m k a k m", "l ( k a k ) l", "m ( k ( a ) k ) m"};
        int[] kinds = {0, 1, 0, 1, 0, 1, 0};
        for (int k = 0; k < texts.length; k++) {
            int t = H.term(texts[k]);
            H.due(texts[k], H.x().about(t, 5), kinds[k]);
            int inner = H.x().part(t, 0);
            inner = H.x().about(inner, 4) > 0 ? H.x().part(inner, 0) : inner;
            H.due("the variable in " + texts[k], H.x().about(inner, 3), due[kinds[k]][0] == -2 ? -2 : 0);
            H.due("the OPERATOR in " + texts[k], H.x().about(inner, 2), due[kinds[k]][1]);
        }
        H.due("in brackets, of the second KIND", H.x().about(H.term("( c )"), 2), 3);
        H.due("of both", H.term("( a )"), -4);
        // a HOLE ends where what is in it can be read, too
        H.with("sort A . op a : -> A . op b : -> A . op s_ : A -> A [ prec 1 ] . op _ _ : A A -> A [ gather & & ] . op p q r _ : A -> A [ prec 1 ] . op _ x y z _ : A A -> A [ prec 50 gather & & ] . op u v w t : -> A .");
        H.due("s a, then b", H.shown(H.term("s a b")), "s a b");
        H.due("two", H.x().about(0, 4), 2);
        H.dueTerm("the first", H.x().part(0, 0), "s a");
        // each of the PARTS stands in it
        String[][] parts = {{"p", "q", "r", "a"}, {"a", "x", "y", "z", "b"}, {"u", "v", "w", "t"}};
        for (String[] row : parts) {
            H.due(String.join(" ", row), H.term(String.join(" ", row)) >= 0 ? 1 : 0, 1);
            for (int k = 0; k < row.length; k++) {
                String[] other = row.clone();
                other[k] = "zz";
                H.due(String.join(" ", other), H.term(String.join(" ", other)), -16);
                boolean hole = row[k].equals("a") || row[k].equals("b");
                other[k] = hole ? "x" : row[(k + 1) % row.length];
                H.due(String.join(" ", other), H.term(String.join(" ", other)), -16);
                H.spare(60);
            }
        }
    }

    /** 32 WORDS of which each row can be read as many OPERATORS: those of another KIND than it has to have are none. */
    private static void manyReadings() {
        StringBuilder text = new StringBuilder("sort A C . op a : -> A . op z : -> A . op _ _ : A A -> A [ assoc ] . ");
        int operators = 3;
        for (int bits = 0; bits < 64 && operators < 48; bits++) {
            int size = 32 - Integer.numberOfLeadingZeros(bits);
            int holes = Integer.bitCount(bits) - 1;
            if (size < 4 || holes < 1 || holes > 3) {
                continue;
            }
            text.append("op");
            for (int k = size - 2; k >= 0; k--) {
                text.append((bits >> k & 1) != 0 ? " _" : " a");
            }
            text.append(" : ").append("A ".repeat(holes)).append("-> C [ gather").append(" &".repeat(holes)).append(" ] . ");
            operators++;
        }
        String row = "a ".repeat(31) + "a";
        H.with(text + "eq z = " + row + " .");
        H.due("OPERATORS", H.x().count(2), operators);
        H.due("more than twenty", operators > 20 ? 1 : 0, 1);
        for (int round = 0; round < 8; round++) {
            H.due("of any KIND", H.term(row), -4);
        }
        H.term("z");
        H.due("of the KIND of the left side", H.x().reduce(0), 1);
        H.due("a row of 32", H.x().about(1, 4), 32);
    }

    /** "8 a variable that is not known (at its T's first WORD), and the left side of eq, rl is a variable". */
    private static void unknownVariables() {
        H.at(8, BASE + "eq @X = a .");
        H.at(8, BASE + "oeq @X = a .");
        H.at(8, BASE + "rl r : @X => a .");
        H.at(8, BASE + "rl r : @( X ) => a .");
        H.at(8, "sort A . op e : -> A . op _+_ : A A -> A [ id e ] . var X : A . rl r : @e + X => e .");
        H.good("sort A . op e : -> A . op _+_ : A A -> A [ id e ] . var X Y : A . rl r : Y + X => e .", 2);
        H.good(BASE + "eq f ( X ) = X .", 6);
        H.at(8, BASE + "eq f ( X ) = @f ( Y ) .");
        H.at(8, BASE + "eq a = @f ( f ( Y ) ) .");
        // "in C from left to right, those of T in T := U are so behind U; the others, and the right side, know none anew"
        H.good(BASE + "eq f ( X ) = Y if Y := X .", 6);
        H.at(8, BASE + "eq f ( X ) = Y if Y := @f ( Y ) .");
        H.at(8, BASE + "eq f ( X ) = Y if @Y = X /\\ Y := X .");
        H.good(BASE + "eq f ( X ) = Y if Y := X /\\ Y = X .", 6);
        H.at(8, BASE + "eq f ( X ) = X if X = @Y .");
        H.at(8, BASE + "eq f ( X ) = X if @Y : A .");
        H.at(8, BASE + "eq a = @X if f ( Y ) := a .");
        H.at(8, BASE + "eq f ( X ) = X if f ( Y ) := X /\\ Z := @g ( Z ) .");
        H.good(BASE + "eq f ( X ) = Y if f ( Y ) := X /\\ Z := c /\\ g ( Z ) := Z .", 6);
        H.good(BASE + "rl r : f ( X ) => Y if X + Y := X .", 6);
    }

    /** "Statements are looked at in the order of the text; in each the left side, T and U of its C, in order, then the right side." */
    private static void statementOrder() {
        String eq = BASE + "eq L = R if T = U /\\ V := W /\\ S : A .";
        String[] places = {"L", "T", "U", "V", "W", "S", "R"};
        String[] good = {"f ( X )", "X", "a", "f ( Y )", "X", "Y", "Y"};
        String[][] wrong = {{"zz", "6"}, {"a + a + a", "7"}, {"f ( Y )", "8"}};
        for (int first = 0; first < places.length; first++) {
            for (String[] fault : wrong) {
                // an unknown variable is one neither on the left side nor in T := U
                if (fault[1].equals("8") && (first == 0 || first == 3 || first > 4)) {
                    continue;
                }
                String text = " " + eq.substring(BASE.length()) + " ";
                for (int k = 0; k < places.length; k++) {
                    String put = k < first ? good[k] : k == first ? "@" + fault[0] : "zz zz";
                    text = text.replace(" " + places[k] + " ", " " + put + " ");
                }
                H.at(Integer.parseInt(fault[1]), BASE + text.trim() + " eq zz = zz .");
            }
        }
        // of one side 6 and 7 ahead of 8
        H.at(6, BASE + "eq f ( X ) = @f ( Y ) zz .");
        H.at(7, BASE + "eq f ( X ) = @Y + Y + Y .");
        H.at(8, BASE + "rl r : a => @X . eq zz = a .");
        H.at(6, BASE + "eq @zz = a . rl r : a => X .");
    }

    /** "SIZE: 1 and the SIZES of its row; at most 40"; "or its SIZE is above 40". */
    private static void sizes() {
        String s = "sort A . op a : -> A . op p : -> A . op e : -> A . op u_ : A -> A [ prec 0 ] . op _ _ : A A -> A [ prec 1 ] . op _&_ : A A -> A [ assoc prec 2 ] . op _|_ : A A -> A [ assoc comm id e prec 3 ] . var X : A . ";
        // 20 in a row of two by two: 39; one u more: 40; two more: 41
        String twenty = "a ".repeat(19) + "a";
        H.with(s);
        H.due("39", H.term(twenty), 0);
        H.due("SIZE", H.x().about(0, 0), 39);
        H.due("40", H.term("u " + twenty), 1);
        H.due("SIZE", H.x().about(1, 0), 40);
        H.due("41: 6", H.term("u u " + twenty), -16);
        H.due("place", H.x().fault(0), 0);
        H.due("41", H.term("\n a " + twenty), -16);
        H.due("place", H.x().fault(0), 2);
        H.due("no handle", H.x().count(7), 2);
        // 16 of a row of 16 are 17, as two by two they are 31; what is in brackets counts, brackets do not
        H.due("a row", H.term("a & ".repeat(15) + "a"), 2);
        H.due("SIZE", H.x().about(2, 0), 17);
        H.due("its row", H.x().about(2, 4), 16);
        H.due("the id has no SIZE in a row", H.term("e | a | e | e | a | e | u e"), 3);
        H.due("SIZE", H.x().about(3, 0), 5);
        H.dueTerm("40, left alone", H.term("e | u " + twenty + " | e"), "u " + twenty);
        H.x().forget();
        H.with(s);
        for (int k = 0; k < 4; k++) {
            H.term("a");
        }
        H.due("29 and 10 in a row: 40", H.term("( " + "a ".repeat(15) + ") | " + "u ".repeat(9) + "a"), 4);
        H.due("29 and 11 in a row: 41", H.term("( " + "a ".repeat(15) + ") | " + "u ".repeat(10) + "a"), -16);
        for (String side : new String[] {"eq # = p .", "eq p = # .", "eq p = p if # = p .", "eq p = p if p = # .", "eq p = p if # := p .", "eq p = p if X := # .", "eq p = p if # : A .", "rl r : # => p .", "rl r : p => # ."}) {
            H.good(s + side.replace("#", "u " + twenty), 7);
            H.at(6, s + side.replace("#", "@u u " + twenty));
        }
        // too big and two readings: 7
        H.at(7, "sort A . op a : -> A . op __ : A A -> A [ gather & & ] . eq a = @" + "a ".repeat(21) + ".");
    }

    /** "the id stands in no row (one that is left alone is that TERM; none: the id)"; "it is one row of 2 and more". */
    private static void rowsOfOneAndNone() {
        for (String attributes : new String[] {"id e", "comm id e", "assoc id e", "assoc comm id e"}) {
            H.with("sort A B . subsort A < B . op e : -> A . op a : -> A . op b : -> B . op _+_ : B B -> B [ " + attributes + " ] . op s_ : B -> B [ prec 0 ] . var X : B .");
            boolean comm = attributes.contains("comm");
            boolean assoc = attributes.contains("assoc");
            String[][] same = {{"e + e", "e"}, {"e + e + e", "e"}, {"e + a", "a"}, {"a + e", "a"}, {"e + X", "X"}, {"( e + e ) + ( X + e )", "X"}, {"e + ( a + e )", "a"}, {"( a + e ) + ( e + b )", "a + b"}};
            for (String[] two : same) {
                int t = H.term(two[0]);
                H.dueTerm(attributes + ": " + two[0], t, two[1]);
            }
            int t = H.term("e + a");
            H.due("of another OPERATOR", H.x().about(t, 2), 1);
            H.due("without a row", H.x().about(t, 4), 0);
            H.due("SIZE", H.x().about(t, 0), 1);
            t = H.term("e + e");
            H.due("the id", H.x().about(t, 2), 0);
            t = H.term("b + a + ( X + e )");
            H.due("three", H.x().about(t, 4), assoc ? 3 : 2);
            H.due("SIZE", H.x().about(t, 0), assoc ? 4 : 5);
            H.due("printed", H.shown(t), comm ? assoc ? "X + a + b" : "X + ( a + b )" : "b + a + X");
            H.spare(200);
            t = H.term("s e + e");
            H.due("what is in another term stays", H.shown(t), "s e");
        }
        H.with("sort A . op a : -> A . op b : -> A . op c : -> A . op _+_ : A A -> A [ assoc ] . op m : A A -> A [ comm ] . op n : A A -> A .");
        H.dueTerm("assoc", H.term("a + ( b + ( c + a ) )"), "( ( a + b ) + c ) + a");
        H.due("two", H.x().about(H.term("a + b"), 4), 2);
        H.due("not in order", H.x().order(H.term("b + a"), H.term("a + b")), 1);
        H.dueTerm("comm", H.term("m ( c , a )"), "m ( a , c )");
        H.due("not assoc", H.x().order(H.term("m ( a , m ( b , c ) )"), H.term("m ( m ( a , b ) , c )")), -1);
        H.due("neither", H.x().order(H.term("n ( b , a )"), H.term("n ( a , b )")), 1);
    }

    /** "e of this STRENGTH at most, E of less"; "without prec 41, if the first or last one is a HOLE, else 0". */
    private static void strengths() {
        for (int n = 4; n <= 6; n++) {
            H.with("sort A . op a : -> A . op k_k : A -> A [ prec 5 gather e ] . op l_l : A -> A [ prec 5 gather E ] . op m_m : A -> A [ prec 5 gather & ] . op t_t : A -> A [ prec " + n + " ] .");
            H.due(n + " in e of 5", H.term("k t a t k"), n <= 5 ? 0 : -16);
            H.x().forget();
            H.due(n + " in E of 5", H.term("l t a t l"), n < 5 ? 0 : -16);
            H.x().forget();
            H.due(n + " in &", H.term("m t a t m"), 0);
            H.x().forget();
            H.due("in brackets", H.term("l ( t a t ) l"), 0);
            H.due("printed", H.shown(0), n < 5 ? "l t a t l" : "l ( t a t ) l");
        }
        H.with("sort A . op a : -> A . op z_z : A -> A [ prec 99 gather & ] . op o_o : A -> A [ prec 0 gather e ] . op O_O : A -> A [ prec 0 gather E ] . var X : A .");
        H.due("& takes 99", H.term("z z a z z"), 0);
        H.due("0 is 0 at most", H.term("o a o"), 1);
        H.due("( ) has 0", H.shown(H.term("o ( z a z ) o")), "o ( z a z ) o");
        H.due("a variable has 0", H.shown(H.term("o X o")), "o X o");
        H.due("so has one in ( )", H.shown(H.term("o ( X ) o")), "o X o");
        H.due("nothing is less than 0", H.term("O a O"), -16);
        H.due("nor in brackets", H.term("O ( a ) O"), -16);
        String[] forms = {"_p", "p_", "_p_", "p_p", "_p_p", "p_p_", "p", "f"};
        int[] holes = {1, 1, 2, 1, 2, 2, 0, 2};
        int[] due = {41, 41, 41, 0, 41, 41, 0, 0};
        for (int k = 0; k < forms.length; k++) {
            H.with("sort A . op " + forms[k] + " : " + "A ".repeat(holes[k]) + "-> A .");
            H.due("STRENGTH of " + forms[k], H.x().operator(0, 1), due[k]);
        }
        // "without gather: the first one, if it is a HOLE, e; the last one E, if the first is a HOLE, too, else e; others &"
        String s = "sort A . op a : -> A . op w_w : A -> A [ prec 41 ] . op v_v : A -> A [ prec 42 ] . ";
        taken(s + "op _p_p_ : A A A -> A .", new String[] {"# p a p a", "a p # p a", "a p a p #"}, new boolean[] {true, true, false}, new boolean[] {false, true, false});
        taken(s + "op p_p_ : A A -> A .", new String[] {"p # p a", "p a p #"}, new boolean[] {true, true}, new boolean[] {true, false});
        taken(s + "op _p_p : A A -> A .", new String[] {"# p a p", "a p # p"}, new boolean[] {true, true}, new boolean[] {false, true});
    }

    /** Whether each HOLE takes 41, and 42. */
    private static void taken(String text, String[] forms, boolean[] equal, boolean[] more) {
        H.with(text);
        for (int k = 0; k < forms.length; k++) {
            H.x().forget();
            H.due(forms[k] + " with 41", H.term(forms[k].replace("#", "w a w")), equal[k] ? 0 : -16);
            H.x().forget();
            H.due(forms[k] + " with 42", H.term(forms[k].replace("#", "v a v")), more[k] ? 0 : -16);
        }
    }

    /** term: "DOUBT .. - 10 less a FAULT (1, also without WORDS; 2, 6); FULL. (FULL last.)"; "200 at most (FULL)". */
    private static void terms() {
        H.with(BASE + "rl r : a => b . eq f ( f ( X ) ) = X .");
        H.due("the first", H.term("f ( a )"), 0);
        H.fillHandles(0, 199);
        H.due("the 200th", H.term("a"), 199);
        H.due("without WORDS", H.term(""), -11);
        String before = H.x().count(7) + " " + H.x().count(9);
        H.due("DOUBT", H.term("a + a + a"), -4);
        H.due("1", H.term("a ."), -11);
        H.due("1", H.term("a \001"), -11);
        H.due("2", H.term("f ( " + "( ".repeat(31)), -12);
        H.due("6", H.term("zz"), -16);
        H.due("FULL", H.term("f ( a )"), -3);
        H.due("the tape is empty then", H.x().end(20), -1);
        H.due("FULL", H.term("X"), -3);
        H.due("nothing else", H.x().count(7) + " " + H.x().count(9), before);
        H.due("forget", H.x().forget(), 200);
        H.due("0 again", H.term("b"), 0);
    }

    /** about: "BAD: none such." */
    private static void about() {
        H.with(BASE + "op _ _ : B B -> B [ assoc ] . op h : A -> A .");
        int[][] due = {{4, 1, 6, -2, 3, 0}, {1, 1, -2, 1, 0, 0}, {1, 2, 2, -2, 0, 1}, {2, -2, 7, -2, 1, 0}, {1, 2, -2, 2, 0, 1}};
        String[] texts = {"a b X", "Y", "c", "h ( b )", "Z"};
        for (int h = 0; h < texts.length; h++) {
            H.term(texts[h]);
            for (int what = 0; what < 6; what++) {
                H.due("about " + texts[h] + " " + what, H.x().about(h, what), due[h][what]);
            }
            int one = h;
            H.due("what -1", H.x().about(one, -1), -1);
            H.due("what 6", H.x().about(one, 6), -1);
        }
        for (int h : new int[] {-1, 5, 199, 200, Integer.MIN_VALUE, Integer.MAX_VALUE}) {
            for (int what = -1; what < 7; what++) {
                H.due("no handle " + h, H.x().about(h, what), -1);
            }
        }
        H.refused("about(5, 0)", () -> H.x().about(5, 0), -1);
        // the last variable, sort and OPERATOR that there can be
        StringBuilder text = new StringBuilder("sort");
        for (int k = 0; k < 20; k++) {
            text.append(" S").append(k);
        }
        text.append(" . var");
        for (int k = 0; k < 30; k++) {
            text.append(" X").append(k);
        }
        text.append(" : S19 .");
        for (int k = 0; k < 50; k++) {
            text.append(" op o").append(k).append(" : -> S19 .");
        }
        H.with(text.toString());
        H.term("X29");
        H.term("o49");
        H.due("variable 29", H.x().about(0, 3), 29);
        H.due("sort 19", H.x().about(0, 1), 19);
        H.due("KIND 19", H.x().about(0, 5), 19);
        H.due("OPERATOR 49", H.x().about(1, 2), 49);
        H.due("sort 19", H.x().about(1, 1), 19);
        H.due("order", H.x().order(0, 1), -1);
    }

    /** part: "A handle of the i-th in its row. BAD: none such. FULL." */
    private static void parts() {
        H.with(BASE + "op _ _ : B B -> B [ assoc ] . op k : B C B -> B .");
        int row = H.term("a b a X");
        int call = H.term("k ( b , c , a )");
        int none = H.term("a");
        int variable = H.term("X");
        H.dueTerm("the first", H.x().part(row, 0), "a");
        H.dueTerm("the last", H.x().part(row, 3), "X");
        H.dueTerm("the last", H.x().part(call, 2), "a");
        H.dueTerm("of another KIND", H.x().part(call, 1), "c");
        for (int i : new int[] {-1, 4, Integer.MIN_VALUE, Integer.MAX_VALUE}) {
            H.refused("part(row, " + i + ")", () -> H.x().part(row, i), -1);
        }
        H.refused("part of three", () -> H.x().part(call, 3), -1);
        H.refused("no row", () -> H.x().part(none, 0), -1);
        H.refused("no row", () -> H.x().part(variable, 0), -1);
        H.with(BASE);
        H.term("f ( a )");
        H.fillHandles(0, 200);
        H.refused("FULL", () -> H.x().part(0, 0), -3);
        H.refused("BAD ahead of FULL", () -> H.x().part(0, 1), -1);
        H.refused("BAD ahead of FULL", () -> H.x().part(200, 0), -1);
        H.refused("BAD ahead of FULL", () -> H.x().part(-1, 0), -1);
        H.due("handles", H.x().count(7), 200);
    }

    /** order: "-1, 0, 1. BAD (-9 here): none such." */
    private static void orders() {
        H.with(BASE);
        H.term("a");
        H.term("b");
        H.due("below", H.x().order(0, 1), -1);
        H.due("the same", H.x().order(1, 1), 0);
        H.due("above", H.x().order(1, 0), 1);
        for (int h : new int[] {-1, 2, 199, 200, Integer.MIN_VALUE, Integer.MAX_VALUE}) {
            H.due("order(" + h + ", 0)", H.x().order(h, 0), -9);
            H.due("order(0, " + h + ")", H.x().order(0, h), -9);
            H.due("order(" + h + ", " + h + ")", H.x().order(h, h), -9);
        }
        // "then of the shorter row first; then by their rows from left to right"
        H.with("sort A . op z : -> A . op _ _ : A A -> A [ assoc ] . op m : A A -> A [ comm ] . op a : -> A . var X : A .");
        String[] texts = {"X", "z", "X X", "X z", "z X", "z a", "a X", "a z", "X X X", "z z z", "z z a", "m ( X , X )", "m ( X , a )", "m ( z , z )", "m ( a , a )", "a"};
        for (String text : texts) {
            H.term(text);
        }
        for (int h = 0; h < texts.length; h++) {
            for (int k = 0; k < texts.length; k++) {
                H.due(texts[h] + " and " + texts[k], H.x().order(h, k), Integer.compare(h, k));
            }
        }
    }

    /** print: "Byte i of what it is PRINTED as; i = - 1: how many. BAD: none such." */
    private static void printed() {
        H.with(BASE);
        H.term("f ( X )");
        H.term("a");
        H.due("how many", H.x().print(0, -1), 7);
        String text = "f ( X )";
        for (int i = 0; i < text.length(); i++) {
            H.due("byte " + i, H.x().print(0, i), text.charAt(i));
        }
        for (int i : new int[] {-2, 7, 8, Integer.MIN_VALUE, Integer.MAX_VALUE}) {
            H.refused("print(0, " + i + ")", () -> H.x().print(0, i), -1);
        }
        H.due("a shorter one behind a longer one", H.x().print(1, -1), 1);
        H.due("byte 1", H.x().print(1, 1), -1);
        for (int h : new int[] {-1, 2, 200}) {
            H.refused("print(" + h + ", 0)", () -> H.x().print(h, 0), -1);
            H.refused("print(" + h + ", -1)", () -> H.x().print(h, -1), -1);
        }
        H.x().forget();
        H.due("forgotten", H.x().print(0, -1), -1);
        H.term("b");
        H.due("another one with its handle", H.shown(0), "b");
        // FORMS of 11 PARTS of 15 bytes each
        String name = "abcdefghijklmn";
        StringBuilder form = new StringBuilder();
        for (int k = 0; k < 11; k++) {
            form.append(name).append((char) ('A' + k)).append(' ');
        }
        H.with("sort A . op o_ : A -> A . op a : -> A . op " + form + "_ : A -> A . eq o a = " + form + form + "a .");
        H.term("o a");
        int got = H.x().reduce(0);
        H.due("many bytes", H.x().print(got, -1), 2 * 11 * 16 + 1);
        H.due("the last one", H.x().print(got, 2 * 11 * 16), 'a');
        H.due("behind it", H.x().print(got, 2 * 11 * 16 + 1), -1);
        // 36 deep
        H.with("sort A N . op a : -> A . op 0 : -> N . op s_ : N -> N . op t : N N A -> A . op " + form + "_ : A -> A . var X : A . var N M : N . eq t ( N , s M , X ) = t ( N , M , " + form + "X ) ."
                + " eq t ( s N , 0 , X ) = t ( N , s s s s s s s s s s 0 , X ) . eq t ( 0 , 0 , X ) = X .");
        H.due("deep", H.x().reduce(H.term("t ( s s s 0 , s s s s s s 0 , a )")), 1);
        H.due("SIZE", H.x().about(1, 0), 37);
        H.due("bytes", H.x().print(1, -1), 36 * 11 * 16 + 1);
        H.due("the last one", H.x().print(1, 36 * 11 * 16), 'a');
        H.due("one of the middle", H.x().print(1, 20 * 11 * 16 - 2), 'K');
        H.due("behind it", H.x().print(1, 36 * 11 * 16 + 1), -1);
        // an assoc row "as the first two, with that and the next one, and so on; in ( ) where a HOLE does not take it"
        H.with("sort A . op a : -> A . op _l_ : A A -> A [ assoc ] . op _r_ : A A -> A [ assoc gather E e ] . op c : A A -> A [ assoc ] . op _k_ : A A -> A [ assoc gather E E ] .");
        String[][] texts = {{"a l a", "a l a"}, {"a l a l a l a", "a l a l a l a"}, {"a l ( a r a )", "a l ( a r a )"}, {"a r a", "a r a"}, {"a r a r a", "( a r a ) r a"}, {"a r a r a r a", "( ( a r a ) r a ) r a"},
            {"c ( a , c ( a , a ) )", "c ( c ( a , a ) , a )"}, {"( a k a ) k a", "( a k a ) k a"}, {"a k ( a k a )", "( a k a ) k a"}};
        for (String[] two : texts) {
            H.x().forget();
            H.due(two[0], H.shown(H.term(two[0])), two[1]);
            H.spare(60);
        }
    }

    /** As many bytes as a TERM of SIZE 40 can be PRINTED as: a row of 39, all FORMS of 12 and WORDS of 16, all in ( ). */
    private static void printedMost() {
        String leaf = longWords('c', 12);
        String between = longWords('j', 10);
        String module = "sort S . op " + leaf + " : -> S [ prec 50 ] . op _ " + between + " _ : S S -> S [ assoc gather E E ] ."
                + " op k : -> S . op t : S -> S . op d : S -> S . op p : S -> S . var X : S . eq k = " + leaf + " . eq d ( X ) = X " + between + " X ."
                + " eq t ( X ) = X " + between + " ( X " + between + " X ) . eq p ( X ) = X " + between + " k .";
        String due = "( " + leaf + " )";
        for (int k = 1; k < 39; k++) {
            due = (k == 1 ? due : "( " + due + " )") + " " + between + " ( " + leaf + " )";
        }
        for (int from = 0; from < due.length(); from += 400) {
            H.with(module);
            H.due("reduce", H.x().reduce(H.term("t ( p ( t ( d ( d ( k ) ) ) ) )")), 1);
            H.due("SIZE", H.x().about(1, 0), 40);
            H.due("bytes", H.x().print(1, -1), 14719);
            int to = Math.min(from + 400, due.length());
            StringBuilder got = new StringBuilder();
            for (int i = from; i < to; i++) {
                got.append((char) H.x().print(1, i));
            }
            H.due("bytes from " + from, got.toString(), due.substring(from, to));
        }
        H.due("the last one", H.x().print(1, 14718), ')');
        H.refused("behind it", () -> H.x().print(1, 14719), -1);
        H.due("a short one then", H.shown(H.term("k")), "k");
        H.due("the long one again", H.x().print(1, -1), 14719);
    }

    /** WORDS of 16 bytes, all other ones, with a blank between. */
    private static String longWords(char letter, int many) {
        StringBuilder all = new StringBuilder();
        for (int k = 0; k < many; k++) {
            all.append(k == 0 ? "" : " ").append(letter).append((char) ('A' + k)).append("x".repeat(14));
        }
        return all.toString();
    }

    /** forget: "All handles go: how many there were." */
    private static void forgotten() {
        H.with(BASE + "rl r : a => b .");
        H.due("none", H.x().forget(), 0);
        H.term("a");
        H.x().steps(0);
        H.feed("f ( a )");
        H.due("one", H.x().forget(), 1);
        H.due("no handle", H.x().about(0, 0), -1);
        H.due("RESULTS stay", H.x().count(8), 1);
        H.due("and are RESULTS of steps()", H.x().way(0, 0), 0);
        H.due("the tape stays", H.x().term(), 0);
        H.due("a RESULT", H.x().result(0), 1);
        H.due("two", H.x().forget(), 2);
        H.due("none", H.x().forget(), 0);
    }

    /** below, kind: "BAD: none such." */
    private static void sorts() {
        H.with("sort D A . sort B C E . subsort A < B . subsort C < B .");
        int[] wrong = {-1, 5, 20, Integer.MIN_VALUE, Integer.MAX_VALUE};
        for (int s : wrong) {
            for (int t = 0; t < 5; t++) {
                H.due("below(" + s + ", " + t + ")", H.x().below(s, t), -1);
                H.due("below(" + t + ", " + s + ")", H.x().below(t, s), -1);
            }
            H.due("below(" + s + ", " + s + ")", H.x().below(s, s), -1);
            H.due("kind(" + s + ")", H.x().kind(s), -1);
        }
        H.due("itself", H.x().below(4, 4), 1);
        H.due("below", H.x().below(1, 2), 1);
        H.due("not above", H.x().below(2, 1), 0);
        H.due("not beside", H.x().below(1, 3), 0);
        int[] kinds = {0, 1, 1, 1, 2};
        for (int s = 0; s < 5; s++) {
            H.due("kind(" + s + ")", H.x().kind(s), kinds[s]);
        }
        H.anew();
        H.due("no sorts", H.x().kind(0), -1);
        H.due("no sorts", H.x().below(0, 0), -1);
        // 20 sorts in a chain: the first is below the last
        StringBuilder text = new StringBuilder("sort");
        StringBuilder chain = new StringBuilder(" . subsort S0");
        for (int k = 0; k < 20; k++) {
            text.append(" S").append(k);
            chain.append(k == 0 ? "" : " < S" + k);
        }
        H.with(text.toString() + chain + " .");
        H.due("one KIND", H.x().count(1), 1);
        H.due("below(0, 19)", H.x().below(0, 19), 1);
        H.due("below(19, 0)", H.x().below(19, 0), 0);
        H.due("below(19, 19)", H.x().below(19, 19), 1);
        H.due("below(20, 19)", H.x().below(20, 19), -1);
        H.due("kind(19)", H.x().kind(19), 0);
        H.due("kind(20)", H.x().kind(20), -1);
        // a ring through all of them: "at its WORD <: with it and those before"
        H.dueFault(text.toString() + chain + " . subsort S19 < S0 .", 4, (text.toString() + chain + " . subsort S19 ").length());
        H.good("sort A B . subsort A A < B B . subsort A < B .", 0);
        H.at(4, "sort A B . subsort A < B @< A . subsort B < A .");
        H.at(4, "sort A . subsort A @< A .");
        H.at(4, "sort A B C . subsort A B @< C B .");
        H.at(4, "sort A B C . subsort C < A . subsort B < C . subsort A @< B .");
        H.at(4, "sort A . subsort A < @B < A .");
        H.at(4, "sort A . subsort A @< A < B .");
    }

    /** operator: "BAD: none such." */
    private static void operators() {
        H.with(BASE);
        for (int what = 0; what < 7; what++) {
            H.due("the last one", H.x().operator(5, what), new int[] {2, 41, 0, 0, -2, 1, 0}[what]);
            for (int o : new int[] {-1, 6, 50, Integer.MIN_VALUE, Integer.MAX_VALUE}) {
                H.due("operator(" + o + ", " + what + ")", H.x().operator(o, what), -1);
            }
        }
        for (int what : new int[] {-1, 7, Integer.MIN_VALUE, Integer.MAX_VALUE}) {
            H.due("what " + what, H.x().operator(0, what), -1);
        }
        for (int what : new int[] {-1, 11, Integer.MIN_VALUE, Integer.MAX_VALUE}) {
            H.due("count(" + what + ")", H.x().count(what), -1);
        }
        // "Rows of one FORM with the same KINDS of SORTS are one OPERATOR": a FORM that begins like another, or is another's end
        H.good("sort A . op a b : -> A . op a : -> A . op b : -> A . op a b c : -> A . op b c : -> A . op _ a : A -> A . op a _ : A -> A . op _ a _ : A A -> A . op a a : -> A .", 9);
        H.good("sort A . op f : A -> A . op f : A A -> A . op f : A A A -> A . op f : -> A . op f ( : -> A .", 5);
        String kinds = "sort A B C D . subsort A < B . subsort C < D . ";
        H.good(kinds + "op g : A C -> A . op g : B D -> B . op g : B C -> B .", 1);
        H.due("rows", H.x().operator(0, 5), 3);
        H.good(kinds + "op g : A C -> A . op g : C A -> A . op g : A A -> C . op g : D D -> C .", 4);
        H.good(kinds + "op g : A A C -> A . op g : B B D -> A . op g : A C A -> A . op g : C A A -> A .", 3);
        // ATTRIBUTES of many rows, each with another number
        StringBuilder text = new StringBuilder("sort A . ");
        for (int k = 0; k < 50; k++) {
            text.append("op p").append(k).append(" : A A -> A [ prec ").append(k).append(k % 3 == 0 ? " comm" : "").append(" ] . ");
        }
        H.with(text.toString());
        for (int k = 0; k < 50; k++) {
            H.due("STRENGTH", H.x().operator(k, 1), k);
            H.due("assoc", H.x().operator(k, 2), 0);
            H.due("comm", H.x().operator(k, 3), k % 3 == 0 ? 1 : 0);
            H.due("id", H.x().operator(k, 4), -2);
        }
    }

    /** LEAST SORT: "the one SORT that is below all others; NONE, if there is none such, or a TERM has none". */
    private static void leastSorts() {
        H.with("sort A B C D . subsort A < B < D . subsort A < C < D . op a : -> A . op b : -> B . op d : -> D . op f : B -> B . op f : C -> C . op g : B -> A . op h : D D -> D . op m : A B -> B [ comm ] . op m : C C -> C [ comm ] ."
                + " op _+_ : B B -> A [ assoc ] . op _+_ : D A -> D [ assoc ] . var C : C .");
        String[][] due = {{"f ( b )", "1"}, {"f ( C )", "2"}, {"f ( a )", "-2"}, {"f ( d )", "-2"}, {"g ( b )", "0"}, {"g ( C )", "-2"}, {"g ( g ( b ) )", "0"}, {"h ( a , f ( a ) )", "-2"}, {"h ( a , a )", "3"},
            {"m ( b , a )", "1"}, {"m ( a , b )", "1"}, {"m ( a , a )", "-2"}, {"m ( b , b )", "-2"}, {"m ( C , C )", "2"},
            // from the left, two by two: b + b is A, A + b is A; d + b is none; d + a is D, D + a is D
            {"b + b", "0"}, {"b + b + b", "0"}, {"d + b", "-2"}, {"d + a", "3"}, {"d + a + a", "3"}, {"b + d", "-2"}, {"d + b + b", "-2"}, {"d + a + b", "-2"}};
        for (String[] two : due) {
            H.due("least sort of " + two[0], H.x().about(H.term(two[0]), 1), Integer.parseInt(two[1]));
            H.x().forget();
            H.spare(30);
        }
        // each of three HOLES counts, wherever the TERM without one stands
        H.with("sort A B C D . subsort A < B < C < D . op a : -> A . op b : -> B . op c : -> C . op d : -> D . op k : A B C -> A . op k : B C A -> B . op k : C A B -> C . op no : A -> A .");
        String[] letters = {"a", "b", "c", "d", "no ( d )"};
        int[][] rows = {{0, 1, 2}, {1, 2, 0}, {2, 0, 1}};
        for (int x = 0; x < 5; x++) {
            for (int y = 0; y < 5; y++) {
                for (int z = 0; z < 5; z++) {
                    int least = -2;
                    for (int r = 2; r >= 0; r--) {
                        least = x <= rows[r][0] && y <= rows[r][1] && z <= rows[r][2] ? r : least;
                    }
                    H.due("k of " + x + y + z, H.x().about(H.term("k ( " + letters[x] + " , " + letters[y] + " , " + letters[z] + " )"), 1), least);
                    H.x().forget();
                    H.spare(30);
                }
            }
        }
    }
}
