/** Promise 4: each FAULT of a module, with its place. */
final class FaultsTest {
    private static final House H = new House("fault");
    private static final String BASE = "sort A B . subsort A < B . op a : -> A . op b : -> B . op f : B -> B . op _ + _ : B B -> B [ gather & & ] . var X Y : B . ";

    public static void main(String[] args) {
        first();
        tooMany();
        names();
        operators();
        readings();
        variables();
        orders();
        System.exit(House.ending());
    }

    /** A fault whose place is where a mark @ stands; the mark itself is left out. */
    private static void at(int code, String text) {
        int place = text.indexOf('@');
        H.dueFault(text.replace("@", ""), code, place);
    }

    private static void good(String text, int operators) {
        H.due("module " + text, H.module(text), operators);
    }

    private static void first() {
        at(1, "@foo A .");
        at(1, "sort A @");
        at(1, "sort A  \n@");
        at(1, "sort @. ");
        at(1, "sort A @( .");
        at(1, "sort A @-> .");
        at(1, "sort A @\001 .");
        at(1, "sort A B@\177 .");
        at(1, "sort A B@\t .");
        at(1, "sort A @abcdefghijklmnopq .");
        at(1, "sort A @abcdefghijklmnop\001q .");
        good("sort A abcdefghijklmnop .", 0);
        at(1, "fo@\001o A .");
        at(1, "sort A . subsort A @.");
        at(1, "sort A . subsort @< A .");
        at(1, "sort A . subsort A < @.");
        at(1, "sort A . subsort A < A < @.");
        at(1, "sort A . var X @.");
        at(1, "sort A . var @: A .");
        at(1, "sort A . var X : A @A .");
        at(1, "sort A . op a @-> A .");
        at(1, "sort A . op a : A @.");
        at(1, "sort A . op a : -> @.");
        at(1, "sort A . op a : -> A @A .");
        at(1, "sort A . op a : -> A [ @] .");
        at(1, "sort A . op a : -> A [ @foo ] .");
        at(1, "sort A . op a : -> A [ prec @123 ] .");
        at(1, "sort A . op a : -> A [ prec @x ] .");
        at(1, "sort A . op a : -> A [ prec @] .");
        at(1, "sort A . op a : -> A [ id @( ] .");
        at(1, "sort A . op a : -> A [ id @: ] .");
        at(1, "sort A . op a : -> A [ gather e @x ] .");
        at(1, "sort A . op a : -> A [ prec 1 @.");
        at(1, BASE + "eq @= a .");
        at(1, BASE + "eq a = @.");
        at(1, BASE + "eq a @=> a .");
        at(1, BASE + "eq a = a if @.");
        at(1, BASE + "eq a = a if a @.");
        at(1, BASE + "eq a = a if a = a /\\ @.");
        at(1, BASE + "eq a = a if a : @( .");
        at(1, BASE + "rl @: a => a .");
        at(1, BASE + "rl r @a => a .");
        at(1, BASE + "rl r : a @= a .");
        at(1, BASE + "eq a = a if a = a @:= a .");
    }

    private static String many(String before, int from, int to, String after) {
        StringBuilder text = new StringBuilder(before);
        for (int k = from; k <= to; k++) {
            text.append(after.replace("#", "" + k));
        }
        return text.toString();
    }

    private static void tooMany() {
        good(many("sort ", 1, 20, "S# ") + ".", 0);
        at(2, many("sort ", 1, 20, "S# ") + "@S21 .");
        good(many("sort A . ", 1, 50, "op a# : -> A . "), 50);
        at(2, many("sort A . ", 1, 50, "op a# : -> A . ") + "@op b : -> A .");
        good(many("sort A . var ", 1, 30, "X# ") + ": A .", 0);
        at(2, many("sort A . var ", 1, 30, "X# ") + "@X31 : A .");
        good(many("sort A . op a : -> A . ", 1, 40, "eq a = a . "), 1);
        at(2, many("sort A . op a : -> A . ", 1, 40, "eq a = a . ") + "@oeq a = a .");
        good(many("sort A . op a : -> A . ", 1, 30, "rl r : a => a . "), 1);
        at(2, many("sort A . op a : -> A . ", 1, 30, "rl r : a => a . ") + "@rl r : a => a .");
        good(many("sort A . op a : -> A . eq a = a if a = a ", 1, 5, "/\\ a = a ") + ".", 1);
        at(2, many("sort A . op a : -> A . eq a = a if a = a ", 1, 5, "/\\ a = a ") + "/\\ @a = a .");
        String row = "sort A . op a : -> A . op s _ : A -> A . eq ";
        good(many(row, 1, 31, "s ") + "a = a .", 2);
        at(2, row + "@" + many("", 1, 32, "s ") + "a = a .");
        String rule = "rl r : a => a if a = a" + many("", 1, 5, " /\\ a = a") + " . ";
        String full = "sort A . op a : -> A . " + many("", 1, 28, rule) + "eq a = a . " + many("sort ", 1, 16, "B# ") + ".";
        H.due("words", full.split(" ").length, 900);
        good(full, 1);
        good(full + " *** one more", 1);
        at(2, full + " @sort C .");
        at(1, full + " @C");
    }

    private static void names() {
        at(3, "sort A B @A .");
        at(3, "sort A . sort @A .");
        at(3, "sort A . var X : A . var Y @X : A .");
        at(3, "sort A . @op : -> A .");
        at(3, "sort A . @op _ : A -> A .");
        at(3, "sort A . @op _ + _ : A -> A .");
        at(3, "sort A . @op f g : A -> A .");
        at(3, "sort A . @op ( : A -> A .");
        at(3, "sort A . @op a _ : -> A .");
        at(3, "sort A . @op f : A A A A -> A .");
        at(3, "sort A . @op _ _ _ _ : A A A A -> A .");
        good("sort A . op a b c d e f g h i j k l : -> A .", 1);
        at(3, "sort A . @op a b c d e f g h i j k l m : -> A .");
        good("sort A . op a_b_c_ : A A A -> A .", 1);
        good("sort A . op _=_ : A A -> A .", 1);
        at(4, "sort A . op a : -> @B .");
        at(4, "sort A . op f : A @B -> A .");
        at(4, "sort A . var X : @B .");
        at(4, "sort A . subsort A < @B .");
        at(4, "sort A . op a : -> A . eq a = a if a : @B .");
        good("op a : -> A . sort A .", 1);
        at(4, "sort A . subsort A @< A .");
        at(4, "sort A B . subsort A < B . subsort B @< A .");
        at(4, "sort A B C . subsort A < B < C @< A .");
        at(4, "sort A B C . subsort A B @< B C .");
        good("sort A B C . subsort A B < C . subsort A < B .", 0);
    }

    private static void operators() {
        at(5, BASE + "@op g : B B -> B [ comm comm ] .");
        at(5, BASE + "@op g : B -> B [ comm ] .");
        at(5, "sort A B . @op g : A B -> A [ comm ] .");
        at(5, "sort A B . @op g : A A -> B [ assoc ] .");
        good("sort A B . op g : A A -> B [ comm ] .", 1);
        at(5, BASE + "@op g : B B -> B [ id c ] .");
        at(5, BASE + "@op g : B B -> B [ id f ] .");
        at(5, "sort A B . op b : -> B . @op g : A A -> A [ id b ] .");
        at(5, "sort A B . op b : -> B . @op g : A A -> B [ id b ] .");
        good("sort A . op g : A A -> A [ id a ] . op a : -> A .", 2);
        at(5, BASE + "@op g : B B -> B [ gather e ] .");
        at(5, BASE + "@op g : B B -> B [ gather e e e ] .");
        at(5, BASE + "@op g : B B -> B [ gather ] .");
        good("sort A . op g : A A -> A [ gather e E prec 3 ] .", 1);
        at(5, BASE + "@op f : B -> B .");
        at(5, BASE + "@op f : A -> A [ prec 3 ] .");
        at(5, "sort A B . op a : -> A . @op a : -> B .");
        at(5, "sort A B C . subsort A < B . op f : A -> A . @op f : B -> C .");
        at(5, "sort A . op f : A -> A . @op f ( _ ) : A -> A .");
        good("sort A B . op f : A -> A . op f : B -> A .", 2);
        at(5, BASE + "@op h : B B -> B [ assoc assoc ] . op f : B -> B .");
    }

    private static void readings() {
        at(6, BASE + "eq @a b = a .");
        at(6, BASE + "eq @c = a .");
        at(7, BASE + "eq @a + a + a = a .");
        at(6, BASE + "sort C . op c : -> C . eq a = @c .");
        at(6, BASE + "sort C . op c : -> C . eq a = a if c = @a .");
        at(6, BASE + "sort C . op c : -> C . eq a = a if @c : A .");
        at(7, BASE + "var a : B . eq @f ( a ) = b .");
        good("sort A C . op a : -> A . var a : C . op f : A -> A . eq f ( a ) = f ( a ) .", 2);
        at(7, "sort A C . op a : -> A . var a : C . op f : A -> A . eq @a = f ( a ) .");
        at(7, "sort A . op a : -> A . op ( _ ) : A -> A . eq @( a ) = a .");
        StringBuilder big = new StringBuilder("sort A . op a : -> A . op _ _ : A A -> A . eq a = @");
        for (int k = 0; k < 21; k++) {
            big.append("a ");
        }
        at(6, big + ".");
        good(big.substring(0, big.length() - 2).replace("@", "") + ".", 2);
    }

    private static void variables() {
        at(8, BASE + "eq @X = a .");
        at(8, BASE + "rl r : @X => a .");
        at(8, BASE + "eq f ( a ) = @X .");
        at(8, BASE + "eq f ( X ) = a if @Y = X .");
        at(8, BASE + "eq f ( X ) = a if X = @Y .");
        at(8, BASE + "eq f ( X ) = a if @Y : A .");
        at(8, BASE + "eq f ( X ) = a if Y := @Y .");
        good(BASE + "eq f ( X ) = Y if Y := X /\\ f ( Y ) = X .", 4);
        at(8, "sort A . op e : -> A . op _ + _ : A A -> A [ id e ] . var X : A . eq @X + e = X .");
    }

    private static void orders() {
        // of 3 and 4 the least place counts
        at(4, "sort A . var X : @B . var X : A .");
        at(3, "sort A . var X : A . var @X : B .");
        at(3, "sort A . @op _ : B -> A .");
        // of 1 the first place counts, bytes and words alike
        at(1, "@foo A . \001");
        at(1, "sort A\001 . foo".replace("A", "A@"));
        at(1, "sort A . @foo abcdefghijklmnopqrs");
        // 1 ahead of 3, 4; these ahead of 5; 5 ahead of 6
        at(1, "sort A A . op a : -> B . op @");
        at(4, "sort A . op g : A -> A [ comm ] . op h : -> @B .");
        at(5, "sort A . op a : -> A . eq a = b . @op g : A -> A [ comm ] .");
        // left side, C, right side
        at(6, BASE + "eq f ( X ) = Y if @c = a .");
        at(8, BASE + "eq f ( X ) = c if @Y = a .");
        // 20 sorts are one thing, names told twice another
        at(3, many("sort A ", 2, 19, "S# ") + "@A .");
    }
}
