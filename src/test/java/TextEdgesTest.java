/** Promises 1 to 7, and 1 TEXTS: each sentence that names an edge, the last input that is taken and the first that is refused. */
final class TextEdgesTest {
    private static final House H = new House("edges of texts");
    private static final String[] RESERVED = {".", ":", "->", "=", "=>", ":=", "if", "/\\"};
    private static final String[] SIGNS = {"(", ")", "[", "]", "{", "}", ","};
    private static final String BASE = "sort A B . subsort A < B . op a : -> A . op b : -> B . op s_ : B -> B . op __ : B B -> B . var X Y : B . ";

    public static void main(String[] args) {
        tape();
        bytes();
        wordSizes();
        remarks();
        words900();
        rowsOfWords();
        reserved();
        endings();
        counts();
        forms();
        attributes();
        placesOfOneAndTwo();
        emptied();
        faultsTold();
        calls512();
        cutBytes();
        anotherModule();
        System.exit(House.ending());
    }

    private static String times(String what, int n) {
        return what.repeat(Math.max(n, 0));
    }

    private static String numbered(String before, int from, int to, String each) {
        StringBuilder text = new StringBuilder(before);
        for (int k = from; k <= to; k++) {
            text.append(each.replace("#", "" + k));
        }
        return text.toString();
    }

    /** feed: "FULL: above 6,000"; end: "the first n (0 .. 20) stay", "BAD: another n, or fewer than twenty are there". */
    private static void tape() {
        House h = new House("tape");
        int blank = 0x20202020;
        h.refused("end(0) of an empty tape", () -> h.x().end(0), -1);
        h.due("twenty", h.x().feed(blank, blank, blank, blank, blank), 20);
        h.refused("end(-1)", () -> h.x().end(-1), -1);
        h.refused("end(21)", () -> h.x().end(21), -1);
        h.refused("end of the least", () -> h.x().end(Integer.MIN_VALUE), -1);
        h.refused("end of the most", () -> h.x().end(Integer.MAX_VALUE), -1);
        h.due("end(20) leaves all", h.x().end(20), 20);
        h.due("end(19)", h.x().end(19), 19);
        h.due("nineteen are fewer than twenty", h.x().end(0), -1);
        h.due("nineteen and twenty", h.x().feed(blank, blank, blank, blank, blank), 39);
        h.due("end(0)", h.x().end(0), 19);
        h.due("and again", h.x().feed(blank, blank, blank, blank, blank), 39);
        h.due("end(1)", h.x().end(1), 20);
        h.due("twenty are twenty", h.x().end(0), 0);
        h.anew();
        for (int k = 1; k <= 300; k++) {
            h.due("feed " + k, h.x().feed(blank, blank, blank, blank, blank), 20 * k);
        }
        h.refused("feed 301", () -> h.x().feed(0x41414141, 0x41414141, 0x41414141, 0x41414141, 0x41414141), -3);
        h.due("6,000 without nineteen", h.x().end(1), 5981);
        h.due("6,001 are above 6,000", h.x().feed(0x41414141, 0x41414141, 0x41414141, 0x41414141, 0x41414141), -3);
        h.due("without one more", h.x().end(19), 5980);
        h.due("6,000 are not", h.x().feed(blank, blank, blank, blank, blank), 6000);
        h.due("6,000 without the last", h.x().end(19), 5999);
        h.refused("6,019 are above 6,000", () -> h.x().feed(0x41414141, 0x41414141, 0x41414141, 0x41414141, 0x41414141), -3);
        h.due("none of the refused bytes came", h.x().module(), 0);
        // a text of 6,000 bytes is read to its last one
        h.anew();
        h.feed("sort A ." + times(" ", 5990) + "\n@");
        h.due("6,000 bytes", h.x().end(20), 6000);
        h.due("another WORD than can stand there", h.x().module(), -11);
        h.due("the last byte", h.x().fault(0), 5999);
        h.due("is in line 2", h.x().fault(1), 2);
        // "the highest of each number first"
        h.anew();
        h.x().feed(0x736f7274, 0x20412e20, 0x2e202020, 0x20202020, 0x20202020);
        h.due("sort A. .", h.x().module(), 0);
        h.due("one sort", h.x().count(0), 1);
    }

    /** "Bytes are 33 .. 126, and blanks: 32, 10": each of the 256, in a module, a term and a strategy. */
    private static void bytes() {
        for (int b = 0; b < 256; b++) {
            char c = (char) b;
            boolean blank = b == 32 || b == 10;
            boolean sign = "()[]{},".indexOf(c) >= 0;
            boolean taken = b >= 33 && b <= 126;
            String text = "sort A" + c + "c .";
            H.anew();
            int got = H.module(text);
            H.due("byte " + b, got, blank || (taken && !sign) ? 0 : -11);
            H.due("byte " + b + " place", H.x().fault(0), blank || (taken && !sign) ? -2 : 6);
            H.due("byte " + b + " sorts", H.x().count(0), blank ? 2 : taken && !sign ? 1 : 0);
            H.with("sort A . op a : -> A . rl r : a => a .");
            H.due("byte " + b + " in a term", H.term("a" + c), blank ? 0 : taken ? -16 : -11);
            H.due("its place", H.x().fault(0), blank ? -2 : taken ? 0 : 1);
            H.term("a");
            boolean behind = b == '*' || b == '!';
            H.due("byte " + b + " in a strategy", H.strategy(0, "r " + c), b == '!' ? 0 : blank || behind ? 1 : -11);
            H.due("its place", H.x().fault(0), blank || behind ? -2 : c == '|' || c == ';' ? 3 : 2);
        }
        H.with("sort A . op a : -> A . rl r : a => a .");
        H.due("the first byte of a term", H.term("\001"), -11);
        H.due("its place", H.x().fault(0), 0);
        H.due("the first WORD of a term", H.term("aaaaaaaaaaaaaaaaa"), -11);
        H.due("its place", H.x().fault(0), 0);
        // "at that byte, whatever WORD it is in"; the first one counts
        H.at(1, "fo@\177o A .");
        H.at(1, "@foo \177 A .");
        H.at(1, "sort .@\001 .");
        H.at(1, "sort A@\001\002 .");
        H.at(1, "sort @\377 .");
        H.at(1, "a@\001 b\002 c");
        H.at(1, "a@\001 aaaaaaaaaaaaaaaaa");
        H.at(1, "@aaaaaaaaaaaaaaaaa a\001");
        H.with("sort A . op a : -> A .");
        H.due("two of a term", H.term("a\001 a\002"), -11);
        H.due("the first", H.x().fault(0), 1);
    }

    /** "at most 16"; "a WORD too long (at its first byte, ahead of bytes in it)". */
    private static void wordSizes() {
        String sixteen = "abcdefghijklmnop";
        H.good("sort " + sixteen + " . op " + sixteen + " : -> " + sixteen + " .", 1);
        H.at(1, "sort @" + sixteen + "q .");
        H.at(1, "sort @" + sixteen + "\001 .");
        H.at(1, "sort @a\001" + sixteen + " .");
        H.at(1, "sort a@\001" + sixteen.substring(2) + " .");
        H.at(1, "@" + sixteen + "q A .");
        H.at(1, "sort A . op @" + sixteen + "_ : A -> A .");
        H.good("sort A . op " + sixteen.substring(1) + "_ : A -> A .", 1);
        // a sign ends a WORD
        H.good("sort A . op f(" + sixteen + "(_)" + sixteen + ") : A -> A .", 1);
        H.with("sort A . op " + sixteen + " : -> A . rl " + sixteen + " : " + sixteen + " => " + sixteen + " .");
        H.due("16 in a term", H.term("( " + sixteen + ")"), 0);
        H.due("17 in a term", H.term("( " + sixteen + "p)"), -11);
        H.due("place", H.x().fault(0), 2);
        H.due("16 in a strategy", H.strategy(0, "(" + sixteen + ")"), 1);
        H.due("17 in a strategy", H.strategy(0, "(" + sixteen + "p)"), -11);
        H.due("place", H.x().fault(0), 1);
    }

    /** "From a WORD that begins with *** on all up to the next 10 is passed over." */
    private static void remarks() {
        H.good("*** sort A A .\nsort B .", 0);
        H.good("sort B . ***", 0);
        H.good("sort B .\n***sort C .\n\n*** \n sort D . ****", 0);
        H.due("sorts", H.x().count(0), 2);
        H.good("sort B .\n***(" + times("x", 40) + " ) . \n", 0);
        H.at(1, "sort B . @** sort C .");
        H.good("sort * ** *a* **a a** *a** . op *_*_* : * ** -> *a* .", 1);
        H.due("sorts", H.x().count(0), 6);
        H.at(1, "sort B . @a*** sort C .\n");
        H.at(1, "sort B . *** sort C . \n @***".replace("@***", "@**"));
        // a WORD that begins with it inside a statement; the 10 that ends it ends a line
        H.good("sort A *** B C .\n D .", 0);
        H.due("sorts", H.x().count(0), 2);
        H.at(1, "sort A *** B C .\n D\n@( .");
        H.with("sort A . op a : -> A . rl r : a => a .");
        H.due("in a term", H.term("( *** a\na *** )\n )"), 0);
        H.due("it alone has no WORDS", H.term("*** a"), -11);
        H.due("place", H.x().fault(0), 5);
        H.due("in a strategy", H.strategy(0, "r *** *\n*"), 1);
        H.due("it alone", H.strategy(0, "\n*** r"), -11);
        H.due("place", H.x().fault(0), 6);
        H.due("line", H.x().fault(1), 2);
    }

    /** "A text has up to 900 WORDS": the 901st is too many, in whatever statement it stands. */
    private static void words900() {
        String head = "sort A B . op a : -> A . subsort A <";
        String[] last = {"sort", "C", "D", "."};
        String[][] statements = {last, {"subsort", "A", "A", "<", "B", "B", "."}, {"var", "X", "Y", ":", "A", "."},
            {"op", "f", "_", ":", "A", "->", "A", "[", "prec", "3", "gather", "e", "]", "."}, {"op", "c", ":", "->", "A", "."},
            {"eq", "a", "=", "a", "if", "a", "=", "a", "/\\", "a", ":", "A", "."}, {"rl", "r", ":", "a", "=>", "(", "a", ")", "if", "a", ":=", "a", "."},
            {"oeq", "(", "a", ")", "=", "a", "."}};
        for (String[] words : statements) {
            for (int over = 0; over < words.length; over++) {
                // so many WORDS ahead of it that its last is the 900th, or its last but .. the 901st
                int fill = 900 - words.length - 13 - 1 + over;
                String text = head + times(" B", fill) + " . ";
                int place = text.length();
                for (int k = 0; k < words.length - over; k++) {
                    place += words[k].length() + 1;
                }
                text += String.join(" ", words);
                H.due("WORDS", text.split(" ").length, 900 + over);
                if (over == 0) {
                    H.good(text + "\n*** one more is none", words[0].equals("op") ? 2 : 1);
                } else {
                    H.dueFault(text, 2, place);
                    // of one place the least number
                    H.dueFault(text.substring(0, place) + "\001 " + text.substring(place), 1, place);
                }
            }
        }
        // the 900th leaves the text unfinished; then its last one is the 901st
        H.at(1, head + times(" B", 887) + "\n\n@");
        H.at(2, head + times(" B", 887) + "\n@.");
    }

    /** "T is a row of 1 .. 32 WORDS": none is FAULT 1 where it should be, 33 are FAULT 2 at its first WORD. */
    private static void rowsOfWords() {
        String[] forms = {"eq # = b .", "eq b = # .", "oeq # = b .", "eq b = b if # = b .", "eq b = b if b = # .", "eq b = b if # := b .", "eq b = b if b := # .",
            "eq b = b if # : B .", "rl r : # => b .", "rl r : b => # .", "rl r : b => b if b : B /\\ # = b ."};
        for (String form : forms) {
            H.good(BASE + form.replace("#", times("s ", 31) + "b"), 4);
            H.at(2, BASE + form.replace("#", "@" + times("s ", 32) + "b"));
            H.at(2, BASE + form.replace("#", "@" + times("s ", 200) + "b"));
            H.at(1, BASE + form.replace("# ", "@"));
            // brackets are WORDS, too
            H.good(BASE + form.replace("#", times("( ", 15) + "s b" + times(" )", 15)), 4);
            H.at(2, BASE + form.replace("#", "@" + times("( ", 16) + "b" + times(" )", 16)));
        }
        H.with(BASE);
        H.due("32 in a term", H.term(times("s ", 31) + "b"), 0);
        H.due("33 in a term", H.term("\n " + times("s ", 32) + "b"), -12);
        H.due("at the first", H.x().fault(0), 2);
        H.due("in its line", H.x().fault(1), 2);
        H.due("none in a term", H.term(" \n "), -11);
        H.due("at the end", H.x().fault(0), 3);
        H.due("in its line", H.x().fault(1), 2);
    }

    /** RESERVED signs, and ( ) [ ] { } , where NAMES, SORT, LABEL, WORD stand; in T, FORM only RESERVED ones cannot. */
    private static void reserved() {
        for (String word : RESERVED) {
            H.at(1, "sort " + (word.equals(".") ? "@. B ." : "A @" + word + " B ."));
            if (!word.equals(":") && !word.equals(".")) {
                H.at(1, "sort A . var X @" + word + " : A .");
                H.at(1, "sort A . op a @" + word + " : -> A .");
            }
            H.at(1, "sort A . var X : @" + word + " .");
            H.at(1, "sort A . op a : -> @" + word + " .");
            H.at(1, "sort A . op a : -> A . op f : A A -> A [ id @" + word + " ] .");
            H.at(1, BASE + "rl @" + word + " : a => a .");
            if (!word.equals("=")) {
                H.at(1, BASE + "eq a @" + word + " a = a .");
            }
            if (!word.equals("=") && !word.equals(":=") && !word.equals(":")) {
                H.at(1, BASE + "eq a = a if a @" + word + " a .");
            }
            H.at(1, BASE + "eq a = a if a : @" + word + " .");
            if (!word.equals("<")) {
                H.at(1, "sort A B . subsort @" + word + " < B .");
                H.at(1, "sort A B . subsort A < @" + word + " .");
            }
            H.with(BASE);
            H.due(word + " in a term", H.term("s " + word + " a"), -11);
            H.due("at it", H.x().fault(0), 2);
        }
        for (String word : SIGNS) {
            H.at(1, "sort A @" + word + " .");
            H.at(1, "sort A . var X @" + word + " : A .");
            H.at(1, "sort A . var X : @" + word + " .");
            H.at(1, "sort A . op f : A @" + word + " -> A .");
            H.at(1, "sort A . op a : -> @" + word + " .");
            H.at(1, "sort A . op a : -> A . op f : A A -> A [ id @" + word + " ] .");
            H.at(1, BASE + "rl @" + word + " : a => a .");
            H.at(1, BASE + "eq a = a if a : @" + word + " .");
            H.at(1, "sort A B . subsort A @" + word + " < B .");
            H.at(6, BASE + "eq @a " + word + " a = a .");
            H.good("sort A . op a " + word + " b : -> A . eq a " + word + " b = a " + word + " b .", 1);
        }
        // other WORDS of the language are WORDS like others
        H.good("sort sort op . subsort op < sort . op var : -> sort . var eq : op . rl rl : var => var .", 1);
        H.good("sort < . op < : -> < . var _ : < . eq < = < .", 1);
        H.at(1, "sort < B . subsort @< < B .");
    }

    /** A text that ends, or goes on, where another WORD has to stand: at each WORD of a module. */
    private static void endings() {
        String[] all = (BASE + "op f : B B -> B [ assoc comm id b prec 20 gather e E ] . eq f ( X , a ) = X if X : A /\\ Y := X . rl r : f ( X , Y ) => X if X = Y .").split(" ");
        StringBuilder text = new StringBuilder();
        boolean ended = true;
        for (String word : all) {
            if (!ended) {
                // the text ends ahead of this WORD
                String shown = text.toString().trim();
                H.anew();
                H.due(shown, H.module(shown), -11);
                H.due(shown + " at the end", H.x().fault(0), shown.length());
            } else {
                H.anew();
                H.due(text.toString(), H.module(text.toString()) >= 0 ? 1 : 0, 1);
                H.dueFault(text + "foo", 1, text.length());
            }
            text.append(word).append(' ');
            ended = word.equals(".");
        }
        H.due("all", ended ? 1 : 0, 1);
    }

    /** "2 too many (.. 20 sorts, 50 rows of op, 30 variables, 40 equations, 30 rules, 6 parts of C)". */
    private static void counts() {
        H.good(numbered("", 1, 20, "sort S# . "), 0);
        H.due("20 sorts", H.x().count(0), 20);
        H.at(2, numbered("", 1, 20, "sort S# . ") + "sort @S21 .");
        H.at(2, numbered("", 1, 10, "sort S# T# . ") + "sort @S1 S2 .");
        H.good(numbered("sort A B . subsort A < B . op f : A -> A . op f : B -> B . ", 1, 48, "op a# : -> A . "), 49);
        H.due("50 rows", H.x().count(3), 50);
        H.at(2, numbered("sort A B . subsort A < B . op f : A -> A . op f : B -> B . ", 1, 48, "op a# : -> A . ") + "@op f : B -> B .");
        H.good(numbered("sort A . ", 1, 15, "var X# Y# : A . "), 0);
        H.due("30 variables", H.x().count(4), 30);
        H.at(2, numbered("sort A . ", 1, 15, "var X# Y# : A . ") + "var @X1 : A .");
        H.good(numbered("sort A . op a : -> A . ", 1, 20, "eq a = a . oeq a = a . "), 1);
        H.due("40 equations", H.x().count(5), 40);
        H.at(2, numbered("sort A . op a : -> A . ", 1, 20, "eq a = a . oeq a = a . ") + "@eq a = a .");
        H.at(2, numbered("sort A . op a : -> A . ", 1, 40, "oeq a = a . ") + "@eq a = a .");
        H.good(numbered("sort A . op a : -> A . ", 1, 30, "rl r# : a => a . ") + "eq a = a .", 1);
        H.due("30 rules", H.x().count(6), 30);
        H.at(2, numbered("sort A . op a : -> A . ", 1, 30, "rl r# : a => a . ") + "@rl r : a => a .");
        for (String head : new String[] {"eq a = a if ", "oeq a = a if ", "rl r : a => a if "}) {
            H.good("sort A . op a : -> A . " + head + times("a = a /\\ ", 5) + "a : A .", 1);
            H.at(2, "sort A . op a : -> A . " + head + times("a = a /\\ ", 6) + "@a : A .");
            H.at(1, "sort A . op a : -> A . " + head + times("a = a /\\ ", 6) + "@. ");
        }
        // 70 statements with 6 parts each would have more than 900 WORDS; as many as there can be
        H.good(numbered("sort A . op a : -> A . ", 1, 27, "eq a = a if a : A /\\ a : A /\\ a : A /\\ a : A /\\ a : A /\\ a : A . "), 1);
    }

    /** FORM: "PARTS and HOLES together are 1 .. 12, HOLES 3 at most; one HOLE is not all"; "as many HOLES as SORTS". */
    private static void forms() {
        H.at(3, "sort A . @op : -> A .");
        H.at(3, "sort A . @op : A -> A .");
        H.good("sort A . op a : -> A .", 1);
        H.good("sort A . op " + times("p ", 12) + ": -> A .", 1);
        H.at(3, "sort A . @op " + times("p ", 13) + ": -> A .");
        H.at(3, "sort A . @op " + times("p ", 40) + ": -> A .");
        H.good("sort A . op " + times("p ", 9) + "_ _ _ : A A A -> A .", 1);
        H.at(3, "sort A . @op " + times("p ", 10) + "_ _ _ : A A A -> A .");
        H.good("sort A . op p_p_p_p p p p p p : A A A -> A .", 1);
        H.at(3, "sort A . @op p_p_p_p p p p p p p : A A A -> A .");
        H.good("sort A . op _p_p_ : A A A -> A .", 1);
        H.good("sort A . op ___ : A A A -> A .", 1);
        H.at(3, "sort A . @op ____ : A A A A -> A .");
        H.at(3, "sort A . @op ____ : A A A -> A .");
        H.at(3, "sort A . @op ___ : A A A A -> A .");
        H.at(3, "sort A . @op _ : A -> A .");
        H.at(3, "sort A . @op _ : -> A .");
        H.good("sort A . op __ : A A -> A .", 1);
        H.good("sort A . op _p : A -> A .", 1);
        H.at(3, "sort A . @op __ : A -> A .");
        H.at(3, "sort A . @op _p : A A -> A .");
        H.at(3, "sort A . @op _p : -> A .");
        H.good("sort A . op f : A A A -> A .", 1);
        H.due("HOLES", H.x().operator(0, 0), 3);
        H.at(3, "sort A . @op f : A A A A -> A .");
        H.at(3, "sort A . @op f g : A -> A .");
        for (String sign : SIGNS) {
            H.at(3, "sort A . @op " + sign + " : A -> A .");
            H.good("sort A . op " + sign + " : -> A .", 1);
            H.good("sort A . op " + sign + " _ : A -> A .", 1);
        }
        // a text may begin with any statement; what it needs may be told behind it
        H.good("op a : -> A . sort A .", 1);
        H.good("var X : A . sort A .", 0);
        H.due("variables", H.x().count(4), 1);
        H.good("subsort A < B . sort A B .", 0);
        H.due("below", H.x().below(0, 1), 1);
        H.good("eq a = a . sort A . op a : -> A .", 1);
        H.due("equations", H.x().count(5), 1);
        H.good("rl r : a => a . sort A . op a : -> A .", 1);
        H.due("rules", H.x().count(6), 1);
        H.at(3, "@op _ : A -> A . sort A .");
        H.at(4, "op f : @B -> A . sort A .");
        H.at(4, "var X : @B . sort A .");
        H.at(4, "subsort A @< A . sort A .");
        H.at(4, "subsort @C < A . sort A .");
        H.at(4, "eq a = a if a : @B . sort A . op a : -> A .");
        H.at(5, "@op f : A -> A [ comm ] . sort A .");
        H.at(6, "eq @zz = a . sort A . op a : -> A .");
        H.at(8, "rl r : a => @X . sort A . op a : -> A . var X : A .");
        // 3 and 4: "the least place counts, of one place the least number"
        H.at(3, "sort A . @op _ : B -> A .");
        H.at(4, "sort A . op f : @B -> A . op _ : A -> A .");
        H.at(3, "sort A @A . op f : B -> A .");
        H.at(4, "sort A . var X : @B . sort A .");
        H.at(3, "sort A . var X : A . var @X : B .");
        H.at(4, "sort A . var X : @B . var X : B .");
        H.at(4, "sort A . subsort A @< A . sort A .");
        H.at(3, "sort A . sort @A . subsort A < A .");
    }

    /** ATTRIBUTES: "one at least, each once, in any order"; "n is one or two digits"; "LETTERS .. as many as follow". */
    private static void attributes() {
        String base = "sort A B . subsort A < B . sort C . op e : -> A . op c : -> C . ";
        H.at(1, base + "op f : A A -> A [ @] .");
        H.at(1, base + "op f : A A -> A [ @foo ] .");
        H.at(1, base + "op f : A A -> A [ assoc @.");
        H.at(1, base + "op f : A A -> A [ assoc ] @[ comm ] .");
        H.at(1, base + "op f : A A -> A [ id @] .");
        for (String n : new String[] {"0", "9", "00", "07", "10", "99"}) {
            H.good(base + "op f : A A -> A [ prec " + n + " ] .", 3);
            H.due("STRENGTH", H.x().operator(2, 1), Integer.parseInt(n));
        }
        for (String n : new String[] {"100", "000", "x", "1x", "x1", "-1", "1.", "1:", "/1", "gather", "]"}) {
            H.at(1, base + "op f : A A -> A [ prec @" + n + " ] .");
        }
        H.good(base + "op f : A A -> A [ prec 3 id e comm gather e & assoc ] .", 3);
        for (String twice : new String[] {"assoc", "comm", "id e", "prec 3", "gather e e"}) {
            H.good(base + "op f : A A -> A [ " + twice + " ] .", 3);
            H.at(5, base + "@op f : A A -> A [ " + twice + " " + twice + " ] .");
        }
        // LETTERS not as many as HOLES
        String[] forms = {"c2 : ->", "g : A ->", "g : A A ->", "g : A A A ->"};
        for (int holes = 0; holes <= 3; holes++) {
            for (int letters = 0; letters <= 5; letters++) {
                String text = base + "@op " + forms[holes] + " A [ gather" + times(" e", letters) + " ] .";
                if (letters == holes) {
                    H.good(text.replace("@", ""), 3);
                } else {
                    H.at(5, text);
                }
            }
        }
        H.at(1, base + "op f : A A -> A [ gather e @x ] .");
        H.at(1, base + "op f : A A -> A [ gather e e @41 ] .");
        // "assoc, comm: of two HOLES of one KIND, for assoc the KIND of the SORT, too"
        String[] rows = {"-> A", "A -> A", "A B -> B", "A B -> C", "A C -> A", "C A -> A", "C C -> A", "A A A -> A"};
        String[] taken = {"", "", "assoc comm id", "comm", "", "", "comm", ""};
        for (int k = 0; k < rows.length; k++) {
            for (String attribute : new String[] {"assoc", "comm", "id e", "id c"}) {
                boolean fits = taken[k].contains(attribute.split(" ")[0]) && !attribute.equals("id c");
                String text = base + "@op g : " + rows[k] + " [ " + attribute + " ] .";
                if (fits) {
                    H.good(text.replace("@", ""), 3);
                } else {
                    H.at(5, text);
                }
            }
        }
        H.good(base + "op g : C C -> C [ id c ] .", 3);
        // "id: the OPERATOR without SORTS whose FORM is that WORD"
        H.at(5, base + "@op g : A A -> A [ id f ] . op f : A -> A .");
        H.at(5, base + "op k l : -> A . @op g : A A -> A [ id k ] .");
        H.at(5, base + "@op g : A A -> A [ id g ] .");
        H.good(base + "op g : A A -> A [ id k ] . op k : -> B .", 4);
        // "in a later row of an OPERATOR another KIND of its SORT, other ATTRIBUTES than the first one's, or SORTS that an earlier one has"
        String first = base + "op g : A A -> A [ comm id e prec 3 gather e & ] . ";
        H.good(first + "op g : B B -> B [ gather e & prec 3 id e comm ] .", 3);
        H.at(5, first + "@op g : B B -> C [ comm id e prec 3 gather e & ] .");
        H.at(5, first + "@op g : B B -> B .");
        H.at(5, first + "@op g : B B -> B [ assoc comm id e prec 3 gather e & ] .");
        H.at(5, first + "@op g : B B -> B [ id e prec 3 gather e & ] .");
        H.at(5, first + "@op g : B B -> B [ comm prec 3 gather e & ] .");
        H.at(5, first + "@op g : B B -> B [ comm id e gather e & ] .");
        H.at(5, first + "@op g : B B -> B [ comm id e prec 4 gather e & ] .");
        H.at(5, first + "@op g : B B -> B [ comm id e prec 3 ] .");
        H.at(5, first + "@op g : B B -> B [ comm id e prec 3 gather e E ] .");
        H.at(5, first + "@op g : A A -> B [ comm id e prec 3 gather e & ] .");
        H.at(5, first + "op e2 : -> A . @op g : B B -> B [ comm id e2 prec 3 gather e & ] .");
        H.good(first + "op g : B A -> B [ comm id e prec 3 gather e & ] . op g : A B -> B [ comm id e prec 3 gather e & ] .", 3);
        H.good(first + "op g : C C -> A .", 4);
        H.good(first + "op g : A C -> A .", 4);
        // 5: "the least place"; "If there is none: 5", ahead of 6 and behind 3, 4
        H.at(5, base + "@op g : A -> A [ comm ] . op g : A -> A .");
        H.at(5, base + "op g : A -> A . @op g : A -> A . op h : A -> A [ comm ] .");
        H.at(4, base + "op g : A -> A [ comm ] . op h : A -> @D .");
        H.at(3, base + "op g : A -> A [ comm ] . op h : A -> A . sort @A .");
        H.at(5, base + "eq e = zz . @op g : A -> A [ comm ] .");
    }

    /** 1 and 2: "the first that holds, of the first place". */
    private static void placesOfOneAndTwo() {
        String sorts = numbered("sort ", 1, 20, "S# ");
        H.at(2, sorts + "@S21 \001 .");
        H.at(2, sorts + "@S21 ( .");
        H.at(1, sorts + "S2@\001 S22 .".replace("S2@", "@S2").replace("@S2\001", "S2@\001"));
        H.at(1, sorts + "@( S21 .");
        H.at(1, "@foo . " + sorts + "S21 .");
        H.at(2, BASE + "eq @" + times("s ", 32) + "b => b .");
        H.at(1, BASE + "eq b @=> " + times("s ", 32) + "b .");
        H.at(2, BASE + "eq @" + times("s ", 40) + "\001 = b .");
        H.at(2, BASE + "eq @" + times("s ", 40));
        H.at(1, BASE + "eq " + times("s ", 32) + "@\001 = b .");
        H.at(2, BASE + "eq @" + times("s ", 33) + "\001 = b .");
        H.at(1, BASE + "eq " + times("s ", 32) + "@");
        H.at(2, BASE + "eq @" + times("s ", 33));
        H.at(1, BASE + "eq " + times("s ", 31) + "b@");
        // 2 is ahead of 3 and 4, wherever these are
        H.at(2, "sort A A . var X : C . sort B " + numbered("", 1, 17, "S# ") + "@S18 .");
        H.at(3, "sort A @A . var X : C . sort B " + numbered("", 1, 17, "S# ") + ".");
    }

    /** module(), term(), strategy(): "The tape, which is empty then"; "BAD: no such handle (the tape stays)". */
    private static void emptied() {
        String module = "sort A . op a : -> A . op _+_ : A A -> A [ gather & & ] . op s_ : A -> A . rl r : a => a .";
        String blanks = times(" ", 30);
        House h = new House("emptied");
        String[] modules = {module, "", "\001", "sort", numbered("sort ", 1, 21, "S# "), "sort A A .", "sort A . op b : -> B .", "op b : -> A . sort A . op b : -> A .", module + " eq b = a .",
            module + " eq a = a + a + a .", module + " var X : A . eq X = a ."};
        int[] faults = {3, 0, -11, -11, -12, -13, -14, -15, -16, -17, -18};
        for (int k = 0; k < modules.length; k++) {
            h.anew();
            h.due("module", h.module(blanks + modules[k]), faults[k]);
            h.due("the tape is empty then", h.x().end(20), -1);
            h.due("twenty come behind nothing", h.x().feed(0, 0, 0, 0, 0), 20);
        }
        String[] terms = {"a", "a + a + a", "", "\001", times("s ", 32) + "a", "b"};
        int[] answers = {0, -4, -11, -11, -12, -16};
        for (int k = 0; k < terms.length; k++) {
            h.with(module);
            h.due("term", h.term(blanks + terms[k]), answers[k]);
            h.due("the tape is empty then", h.x().end(20), -1);
            h.due("twenty come behind nothing", h.x().feed(0, 0, 0, 0, 0), 20);
            h.due("handles", h.x().count(7), answers[k] == 0 ? 1 : 0);
        }
        String[] plans = {"r", "zz", "r r", times("r ; ", 30) + "r", ""};
        int[] counts = {1, -11, -11, -12, -11};
        for (int k = 0; k < plans.length; k++) {
            h.with(module);
            h.term("a");
            h.due("strategy", h.strategy(0, blanks + plans[k]), counts[k]);
            h.due("the tape is empty then", h.x().end(20), -1);
            h.due("twenty come behind nothing", h.x().feed(0, 0, 0, 0, 0), 20);
        }
        h.with(module);
        h.term("a");
        h.feed(blanks + "a");
        h.refused("strategy(1)", () -> h.x().strategy(1), -1);
        h.refused("strategy(-1)", () -> h.x().strategy(-1), -1);
        h.due("the tape stays", h.x().end(20), 31);
        h.due("and is a term", h.x().term(), 1);
    }

    /** fault: "Of the latest module(), term(), strategy(): the place .. (NONE, also with DOUBT), the line .. BAD: another what." */
    private static void faultsTold() {
        House h = new House("faults told");
        h.due("a new object has none", h.x().fault(0), -2);
        h.due("a new object has none", h.x().fault(1), -2);
        for (int what : new int[] {-1, 2, 3, Integer.MIN_VALUE, Integer.MAX_VALUE}) {
            h.due("fault(" + what + ")", h.x().fault(what), -1);
        }
        // "from 1 on, a 10 ends one": a place at the 10 itself, and one behind it
        String text = "sort A .\n\n  sort (\n";
        h.module(text);
        h.due("place", h.x().fault(0), 17);
        h.due("line", h.x().fault(1), 3);
        h.module("sort A .\nsort B\n");
        h.due("the end is behind the last 10", h.x().fault(0), 16);
        h.due("line", h.x().fault(1), 3);
        h.with("sort A . op a : -> A . op s_ : A -> A . op _+_ : A A -> A [ gather & & ] . rl r : a => a .");
        h.due("no fault", h.x().fault(0), -2);
        h.due("a term's", h.term("\n\nb"), -16);
        h.due("place", h.x().fault(0) * 10 + h.x().fault(1), 23);
        h.refused("fault(2)", () -> h.x().fault(2), -1);
        h.x().reduce(9);
        h.x().match(0, 0, false);
        h.x().end(7);
        h.x().forget();
        h.due("other calls leave it", h.x().fault(0) * 10 + h.x().fault(1), 23);
        h.due("DOUBT", h.term("a + a + a"), -4);
        h.due("has no place", h.x().fault(0), -2);
        h.due("has no line", h.x().fault(1), -2);
        h.term("b");
        h.due("a handle", h.term("s a"), 0);
        h.due("has no place", h.x().fault(0), -2);
        h.due("has no line", h.x().fault(1), -2);
        h.due("a strategy's", h.strategy(0, "\nr ;\n\n; r"), -11);
        h.due("place", h.x().fault(0) * 10 + h.x().fault(1), 64);
        h.due("a good one", h.strategy(0, "r"), 1);
        h.due("has none", h.x().fault(0), -2);
        h.due("too many WORDS", h.strategy(0, "r\n" + times("; r ", 30)), -12);
        h.due("at the 61st", h.x().fault(0), 2 + 4 * 29 + 2);
        h.due("line", h.x().fault(1), 2);
        h.fillHandles(0, 200);
        h.term("b");
        h.due("FULL", h.term("a"), -3);
        h.due("has none", h.x().fault(0), -2);
        h.due("a module's", h.module("sort"), -11);
        h.due("place", h.x().fault(0) * 10 + h.x().fault(1), 41);
        h.due("a good one", h.module(""), 0);
        h.due("has none", h.x().fault(0), -2);
        h.due("has none", h.x().fault(1), -2);
    }

    /** "An object is used for at most 512 calls": the last of them is answered like the first. */
    private static void calls512() {
        House h = new House("512 calls");
        String module = "sort A . op a : -> A . op f : A -> A . var X : A . eq f ( f ( X ) ) = X . rl r : a => f ( a ) . ***" + times("x", 40);
        for (int round = 0; h.calls() < 480; round++) {
            h.due("module " + round, h.module(module), 2);
            h.due("term", h.term("f ( f ( a ) )"), 0);
            h.due("reduce", h.x().reduce(0), 1);
            h.due("steps", h.x().steps(0), 1);
            h.due("states", h.x().states(1), 2);
            h.due("result", h.x().result(1), 2);
        }
        while (h.calls() < 510) {
            h.due("count(8)", h.x().count(8), 2);
        }
        h.due("the 511th", h.x().order(0, 2), 1);
        h.due("the 512th", h.x().about(2, 0), 2);
        h.due("calls", h.calls(), 512);
    }

    /** end: what does not stay counts for nothing, whatever it was. */
    private static void cutBytes() {
        House h = new House("cut bytes");
        h.x().feed(0x736f7274, 0x20410a0a, 0x0a0a0a0a, 0x0a0a0a0a, 0x0a0a0a0a);
        h.due("sort A", h.x().end(6), 6);
        h.due("unfinished", h.x().module(), -11);
        h.due("at the end", h.x().fault(0), 6);
        h.due("in line 1", h.x().fault(1), 1);
        h.x().feed(0x736f7274, 0x2041202e, 0x202a2a2a, 0x2a2a2a2a, 0x2a2a2a2a);
        h.due("sort A . **", h.x().end(11), 11);
        h.due("no remark", h.x().module(), -11);
        h.due("at the **", h.x().fault(0), 9);
        h.x().feed(0x736f7274, 0x20616161, 0x61616161, 0x61616161, 0x61616161);
        h.x().feed(0x61616161, 0x61616161, 0x61616161, 0x61616161, 0x61616161);
        h.due("sort and 16", h.x().end(1), 21);
        h.x().feed(0x202e0101, 0x01010101, 0x01010101, 0x01010101, 0x01010101);
        h.due("a blank and .", h.x().end(2), 23);
        h.due("16 bytes are no more than 16", h.x().module(), 0);
        h.due("a sort", h.x().count(0), 1);
    }

    /** module: "The tape .. is the module": nothing of the one before it is left, whatever was asked of that. */
    private static void anotherModule() {
        House other = new House("another module");
        for (String name : new String[] {"a", "b", "ab"}) {
            other.due("module", other.module("sort A . op " + name + " : -> A ."), 1);
            other.due("term", other.term(name), 0);
            other.due("print", other.shown(0), name);
        }
        // other WORDS each time, as many as a text can have
        other.anew();
        for (int round = 0; round < 2; round++) {
            StringBuilder many = new StringBuilder();
            for (int k = 0; k < 900; k++) {
                many.append((char) ('a' + round)).append((char) ('A' + k % 26)).append((char) ('a' + k / 26 % 26)).append(k < 676 ? " " : "x ");
            }
            other.due("another WORD than can stand there", other.module(many.toString()), -11);
        }
        other.due("a module", other.module("sort New . op new : -> New . var Other : New . rl next : new => new ."), 1);
        other.due("a term", other.term("new"), 0);
        other.due("a variable", other.term("Other"), 1);
        other.due("a LABEL", other.strategy(0, "next"), 1);
        // rows of one OPERATOR without ATTRIBUTES where other rows had some
        other.anew();
        for (int round = 0; round < 3; round++) {
            other.due("module", other.module("sort A B . subsort A < B . op e : -> A . op d : -> A . op f : A A -> A [ prec 5 id e gather e & assoc ] . op g : A A -> A [ prec 7 id d gather & e comm ] ."), 4);
            other.due("STRENGTH", other.x().operator(2, 1), 5);
            other.due("module", other.module("sort A B . subsort A < B . op e : -> A . op d : -> A . op f : A A -> A . op f : B B -> B . op h : A B -> B . op h : B A -> B ."), 4);
            other.due("STRENGTH", other.x().operator(2, 1), 0);
            other.due("id", other.x().operator(2, 4), -2);
        }
        // as many as there can be of each, more than once
        String most = numbered("sort ", 1, 20, "S# ") + numbered(". ", 1, 50, "op a# : -> S1 . ") + numbered("var ", 1, 30, "X# ") + ": S1 . ";
        other.anew();
        for (int round = 0; round < 4; round++) {
            other.due("module", other.module(most), 50);
            other.due("sorts", other.x().count(0), 20);
            other.due("variables", other.x().count(4), 30);
        }
        String statements = "sort A . op a : -> A . " + times("eq a = a . ", 40) + times("rl r : a => a . ", 30);
        other.anew();
        for (int round = 0; round < 4; round++) {
            other.due("module", other.module(statements), 1);
            other.due("equations", other.x().count(5), 40);
            other.due("rules", other.x().count(6), 30);
        }
        String parts = "sort A . op a : -> A . " + times("eq a = a if a : A /\\ a : A /\\ a : A /\\ a : A /\\ a : A /\\ a : A . ", 27);
        other.anew();
        for (int round = 0; round < 4; round++) {
            other.due("module", other.module(parts), 1);
            other.due("equations", other.x().count(5), 27);
        }
        String[] modules = {"sort A B C . subsort C < A B . op c : -> C . op f : A -> A . op f : B -> B . var X : A . eq f ( X ) = f ( X ) . eq c = c . rl r : c => c .",
            "sort A . op a : -> A . op b : -> A . op g : A -> A . eq b = a . eq b = g ( a ) . rl q : a => b . rl q : a => g ( a ) .", "sort A", ""};
        int[][] due = {{2, 3, 1, 2, 3, 1, 2, 1, 0, 1, 0, 0, 0, 0, 0}, {3, 1, 1, 3, 3, 0, 2, 2, 1, -2, 0, -1, 1, 1, 1}, {-11, 0, 0, 0, 0, 0, 0, 0, 1, -2, 1, -2, 0, 0, 0}, {0, 0, 0, 0, 0, 0, 0, 0, 1, -2, 1, -2, 0, 0, 0}};
        for (int[] order : new int[][] {{0, 1, 0, 2, 1}, {1, 0, 3, 0, 1}, {2, 1, 1, 0, 0}}) {
            House h = new House("another module");
            for (int k : order) {
                h.due("module", h.module(modules[k]), due[k][0]);
                for (int what = 0; what < 7; what++) {
                    h.due("count(" + what + ")", h.x().count(what), due[k][1 + what]);
                }
                h.due("check(0)", h.x().check(0), k == 0 ? 0 : 1);
                h.due("witness(0, 0)", h.x().witness(0, 0), k == 0 ? 1 : -2);
                h.due("check(1)", h.x().check(1), k == 0 || k == 1 ? 0 : 1);
                h.due("witness(1, 0)", h.x().witness(1, 0), k == 0 ? 0 : k == 1 ? 1 : -2);
                h.due("pairs(0)", h.x().pairs(0), k == 1 ? 1 : 0);
                h.due("pair(0, 0)", h.x().pair(0, 0), k == 1 ? 0 : -1);
                String text = k == 0 ? "c" : k == 1 ? "a" : "";
                h.due("term", h.term(text), text.isEmpty() ? -11 : 0);
                h.due("print", text.isEmpty() ? "" : h.shown(0), text);
                h.due("a LABEL", h.strategy(0, "q"), text.isEmpty() ? -1 : k == 0 ? -11 : 2);
                h.x().term();
            }
        }
    }
}
