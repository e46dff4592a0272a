import java.util.Arrays;
import java.util.TreeMap;

/**
 * For each sentence of the Terms that names a boundary case a test of its own, named after the term. What a single call
 * takes or refuses is in PromiseBoundaryTest; here is what the words in capitals mean at their edges.
 */
public final class TermBoundaryTest {
    private static final int NONE = SymmetryTax.NONE;

    private TermBoundaryTest() {
    }

    private static void due(String call, int got, int want) {
        Bounds.due(call, got, want);
    }

    private static void test(String named, Runnable body) {
        Bounds.test(named, body);
    }

    // ---- term I ----

    private static void things() {
        test("term I, THINGS: six, of each size from 1 by 1 to 8 by 8", () -> {
            for (int size = 0; size < 64; size += 6) {
                SymmetryTax x = new SymmetryTax();
                for (int t = 0; t < 6 && size + t < 64; t++) {
                    int wide = (size + t) % 8 + 1;
                    int tall = (size + t) / 8 + 1;
                    due("thing", x.thing(wide, tall, t), t);
                    due("WIDE", x.fact(t, 0), wide);
                    due("TALL", x.fact(t, 1), tall);
                    due("OWNER", x.fact(t, 2), t);
                    due("the last CELL", x.of(t, wide - 1, tall - 1), 0);
                    due("beyond WIDE", x.of(t, wide, tall - 1), NONE);
                    due("beyond TALL", x.of(t, wide - 1, tall), NONE);
                }
            }
        });
        test("term I, CELLS: x is below WIDE, y below TALL, not the other way round", () -> {
            SymmetryTax x = Bounds.of(5, 2);
            due("x 4, y 1", x.paint(0, 4, 1, 7), 0);
            due("x 1, y 4", x.paint(0, 1, 4, 7), -1);
            due("x 2, y 2", x.paint(0, 2, 2, 7), -1);
            x = Bounds.of(2, 5);
            due("x 1, y 4", x.paint(0, 1, 4, 7), 0);
            due("x 4, y 1", x.paint(0, 4, 1, 7), -1);
            due("x 2, y 2", x.paint(0, 2, 2, 7), -1);
        });
        test("term I, CELLS: x beyond WIDE is not a CELL of the next row", () -> {
            SymmetryTax x = Bounds.of(3, 3);
            due("x 3", x.paint(0, 3, 0, 7), -1);
            due("x -1", x.paint(0, -1, 1, 7), -1);
            for (int c = 0; c < 9; c++) {
                due("cell " + c, x.of(0, c % 3, c / 3), 0);
            }
        });
        test("term I, PARTS: 0 at first, 0 to 9", () -> {
            SymmetryTax x = Bounds.of(1, 1);
            for (int part = 0; part < 10; part++) {
                due("paint", x.paint(0, 0, 0, part), Math.max(0, part - 1));
                due("of", x.of(0, 0, 0), part);
            }
            due("paint", x.paint(0, 0, 0, 10), -1);
            due("of", x.of(0, 0, 0), 9);
        });
        test("term I, HOLES: none at first, 6 at most, in any CELLS", () -> {
            SymmetryTax x = Bounds.of(8, 8);
            int[] cells = {0, 7, 56, 63, 27, 36};
            due("none", x.fact(0, 4), 0);
            for (int cell : cells) {
                due("hole", x.hole(0, cell % 8, cell / 8, 1), 0);
            }
            due("a seventh", x.hole(0, 1, 0, 1), -5);
            for (int cell : cells) {
                due("it is one", x.hole(0, cell % 8, cell / 8, 1), 1);
            }
        });
        test("term I, TERMS: SLACK 0, DAY 0, NEAR 1, TWIN 5 at first", () -> {
            SymmetryTax x = new SymmetryTax();
            int[] first = {0, 0, 1, 5};
            for (int what = 0; what < 4; what++) {
                due("count(" + (10 + what) + ")", x.count(10 + what), first[what]);
            }
        });
    }

    private static void refusals() {
        test("term I, REFUSED: -1 is ahead of -2", () -> {
            SymmetryTax x = new SymmetryTax();
            due("paint", x.paint(0, 0, 0, 10), -1);
            due("hole", x.hole(0, 0, 0, 2), -1);
            due("place", x.place(0, 10), -1);
            due("back", x.back(2), -1);
            due("counted once each", x.count(4), 4);
            due("not twice", x.count(5), 0);
        });
        test("term I, REFUSED: -2 is ahead of -3", () -> {
            SymmetryTax x = Bounds.of(1, 1);
            x.place(0, 3);
            due("place", x.place(1, 3), -2);
            due("-2", x.count(5), 1);
            due("-3", x.count(6), 0);
        });
        test("term I, REFUSED: -1 is ahead of -5", () -> {
            SymmetryTax x = new SymmetryTax();
            for (int t = 0; t < 6; t++) {
                x.thing(1, 1, 0);
            }
            due("thing", x.thing(1, 1, 6), -1);
            due("-1", x.count(4), 1);
            due("-5", x.count(7), 0);
        });
        test("term I, REFUSED: -5 is ahead of -6", () -> {
            SymmetryTax x = new SymmetryTax();
            for (int l = 0; l < 6; l++) {
                Bounds.law(x, "spares");
            }
            due("law", Bounds.law(x, "?"), -5);
            due("-5", x.count(7), 1);
            due("-6", x.count(8), 0);
        });
        test("term I, REFUSED: paint and hole tell another order, a CELL's -1 behind -2", () -> {
            SymmetryTax x = new SymmetryTax();
            due("paint", x.paint(0, 9, 9, 0), -2);
            due("hole", x.hole(0, 9, 9, 0), -2);
            due("-1", x.count(4), 0);
            due("-2", x.count(5), 2);
        });
        test("term I, REFUSED: a CELL's -1 is ahead of -5", () -> {
            SymmetryTax x = Bounds.of(8, 1);
            for (int c = 0; c < 6; c++) {
                x.hole(0, c, 0, 1);
            }
            due("hole", x.hole(0, 8, 0, 1), -1);
        });
    }

    // ---- term II: the text ----

    private static void good(String text) {
        SymmetryTax x = new SymmetryTax();
        due("law: " + text, Bounds.law(x, text), 0);
        due("fault: " + text, x.fault(), NONE);
        due("bytes left: " + text, x.count(3), 0);
    }

    private static void bad(String text, int place) {
        SymmetryTax x = new SymmetryTax();
        due("law: " + text, Bounds.law(x, text), -6);
        due("fault: " + text, x.fault(), place);
        due("bytes left: " + text, x.count(3), 0);
        due("laws: " + text, x.count(1), 0);
    }

    /** Of a thing 3 wide, 2 tall, owner 4, with parts 0 and 7, on day 9, by likeness 1 (off 2). */
    private static void taxed(String text, int want) {
        SymmetryTax x = new SymmetryTax();
        Bounds.add(x, 3, 2, 4, 0, 0, 0, 0, 7, 0);
        x.terms(1, 9);
        due("law: " + text, Bounds.law(x, text), 0);
        x.force(0);
        due("tax: " + text, x.tax(0, 1), want);
    }

    private static void tokens() {
        test("term II, TOKENS: longest rows of letters", () -> {
            good("tax like");
            bad("taxlike", 0);
            bad("tax likeoff", 4);
            bad("tax 1 iflike=1", 6);
            bad("t ax 1", 0);
            good("spares if not like=1 and not off=1");
            bad("spares if notlike=1", 10);
        });
        test("term II, TOKENS: letters a and z are letters, their neighbours are not", () -> {
            bad("tax parta", 4);
            bad("tax zoff", 4);
            bad("tax off`", 7);
            bad("tax off{", 7);
            bad("tax off@", 7);
            bad("taX 1", 0);
            bad("TAX 1", 0);
            bad("tax OFF", 4);
        });
        test("term II, TOKENS: longest rows of digits", () -> {
            taxed("tax 12", 12);
            bad("tax 1 2", 6);
            taxed("tax 0012", 12);
            bad("tax 10000", 4);
        });
        test("term II, TOKENS: digits 0 and 9 are digits, their neighbours are not", () -> {
            taxed("tax 90", 90);
            taxed("tax 09", 9);
            bad("tax 1:", 5);
            bad("tax 1/", 6);
            bad("tax :", 4);
        });
        test("term II, TOKENS: letters and digits part without blanks", () -> {
            taxed("tax5if1=1", 5);
            taxed("tax5;tax6if1<2and3>2or1=2", 6);
            bad("tax5x", 4);
            bad("tax off5", 7);
        });
        test("term II, TOKENS: other bytes are single", () -> {
            bad("spares if 1<=2", 12);
            bad("spares if 1==2", 12);
            bad("spares if 1<>2", 12);
            bad("spares;;spares", 7);
            bad("tax 1**2", 6);
            good("tax[[1]]");
        });
        test("term II, TOKENS: any blanks between, ahead and behind, or none", () -> {
            taxed("   tax   7   ", 7);
            taxed("tax 1  +  6", 7);
            taxed("tax[1+6]", 7);
            taxed("tax 7 ;  tax 8", 8);
            bad("   tax   !   ", 9);
        });
        test("term II, TOKENS: 32 alone is a blank", () -> {
            for (int b : new int[] {0, 9, 10, 13, 31, 33, 127, 128, 160, 255}) {
                bad("tax" + (char) b + "7", 3);
                bad("tax 7" + (char) b, 5);
                bad((char) b + "tax 7", 0);
            }
        });
    }

    private static void clauses() {
        test("term II, CLAUSES: one at least", () -> {
            bad("", 0);
            bad(" ", 1);
            bad(";", 0);
            bad(";spares", 0);
        });
        test("term II, CLAUSES: a ; wants another one", () -> {
            bad("spares;", 7);
            bad("spares; ", 8);
            bad("spares;;", 7);
        });
        test("term II, CLAUSES: 12 are taken, and the 12th is asked", () -> {
            taxed("tax 1;".repeat(11) + "tax 2", 2);
            taxed("tax 1;".repeat(11) + "spares", 0);
        });
        test("term II, CLAUSES: FAULT at the 13th's first TOKEN", () -> {
            bad("spares;".repeat(12) + "spares", 84);
            bad("spares;".repeat(12) + "  spares", 86);
            bad("spares;".repeat(12) + "tax 5", 84);
            bad("spares;".repeat(12) + "!", 84);
            bad("tax 1;".repeat(12) + "tax 1;tax 1", 72);
        });
        test("term II, CLAUSES: behind the 12th's ; the end is the FAULT", () -> {
            bad("spares;".repeat(12), 84);
            bad("spares;".repeat(12) + "  ", 86);
        });
        test("term II, CLAUSES: a FAULT ahead of the 13th is the first", () ->
            bad("spares;".repeat(5) + "?;" + "spares;".repeat(12), 35));
        test("term II, CLAUSE: tax wants a SUM, spares none", () -> {
            bad("tax", 3);
            bad("tax;tax 1", 3);
            bad("tax if 1=1", 4);
            good("spares");
            bad("spares 1", 7);
            bad("spares off", 7);
        });
        test("term II, CLAUSE: tax or spares is its first TOKEN", () -> {
            for (String word : "if or and not like off wide tall area owner day parts 1 ( [ x".split(" ")) {
                bad(word + " 1", 0);
                bad("spares;" + word + " 1", 7);
            }
        });
        test("term II, CLAUSE: if may be there once, and wants a TEST", () -> {
            good("spares if 1=1");
            bad("spares if", 9);
            bad("spares if ;", 10);
            bad("spares if 1=1 if 1=1", 14);
            bad("if 1=1 spares", 0);
            bad("tax 1 if 1=1 tax 2", 13);
        });
    }

    private static void grammar() {
        test("term II, TEST: or and and want something on both sides", () -> {
            good("spares if 1=1 or 1=2 or 1=3 and 1=4 and 1=5");
            bad("spares if or 1=1", 10);
            bad("spares if 1=1 or", 16);
            bad("spares if 1=1 and", 17);
            bad("spares if 1=1 and or 1=1", 18);
            bad("spares if 1=1 or or 1=1", 17);
            bad("spares if 1=1 1=1", 14);
        });
        test("term II, PLAIN: not, again and again, wants a PLAIN", () -> {
            good("spares if not 1=1");
            good("spares if not not (not 1=1)");
            bad("spares if not", 13);
            bad("spares if not not", 17);
            bad("spares if not and", 14);
            bad("spares if 1=1 not", 14);
            good("spares if " + "not ".repeat(96) + "1=1");
            bad("spares if " + "not ".repeat(97), 398);
        });
        test("term II, PLAIN: one sign between two SUMS", () -> {
            good("spares if 1<2");
            good("spares if 1>2");
            good("spares if 1=2");
            bad("spares if 1", 11);
            bad("spares if 1<", 12);
            bad("spares if <1", 10);
            bad("spares if 1<2<3", 13);
            bad("spares if 1!2", 11);
        });
        test("term II, PLAIN: ( ) are of TESTS, [ ] of SUMS", () -> {
            good("spares if (1=1)");
            good("spares if [1]=1");
            good("spares if ((1=1) or not(1=2))and[1]=[2]");
            bad("spares if (1)=1", 12);
            bad("spares if [1=1]", 12);
            bad("tax (1)", 4);
            bad("tax [1)", 6);
            bad("spares if (1=1]", 14);
            bad("spares if ()", 11);
            bad("tax []", 5);
        });
        test("term II: brackets are shut, and none is shut that is not open", () -> {
            bad("spares if (1=1", 14);
            bad("spares if 1=1)", 13);
            bad("tax [1", 6);
            bad("tax 1]", 5);
            bad("tax [1;spares", 6);
            bad("spares if (1=1;spares", 14);
            bad("spares if ([1)=1]", 13);
        });
        test("term II, SUM: + and - want a TERM on both sides", () -> {
            bad("tax +1", 4);
            bad("tax -1", 4);
            bad("tax 1+", 6);
            bad("tax 1+-1", 6);
            bad("tax 1 - ;", 8);
        });
        test("term II, TERM: * and / want a PART on both sides", () -> {
            bad("tax *1", 4);
            bad("tax /1", 4);
            bad("tax 1*", 6);
            bad("tax 1+*1", 6);
            bad("tax 1/", 6);
        });
        test("term II, PART: the eight words and no others", () -> {
            for (String word : "like off wide tall area owner day parts".split(" ")) {
                good("tax " + word);
            }
            for (String word : "tax spares if or and not likes lik owne x slack near twin part".split(" ")) {
                bad("tax " + word, 4);
            }
        });
        test("term II, words: each letter of each of them matters", () -> {
            String all = "tax like+off+wide+tall+area+owner+day+parts if not 1=1 or 1=1 and 1=1;spares";
            good(all);
            for (int at = 0; at < all.length(); at++) {
                if (Character.isLetter(all.charAt(at))) {
                    int start = at;
                    while (start > 0 && Character.isLetter(all.charAt(start - 1))) {
                        start--;
                    }
                    bad(all.substring(0, at) + "z" + all.substring(at + 1), start);
                }
            }
        });
        test("term II, NUMBER: 0 and 1000 are taken, 1001 is the FAULT", () -> {
            taxed("tax 0", 0);
            taxed("tax 1000/2", 500);
            bad("tax 1001", 4);
            bad("tax 1+1001", 6);
            bad("tax 1 if 1001=1", 9);
        });
        test("term II, NUMBER: a long one does not come round to a low one", () -> {
            bad("tax 4294967297", 4);
            bad("tax 18446744073709551617", 4);
            bad("tax " + "9".repeat(396), 4);
            bad("tax 1" + "0".repeat(395), 4);
            taxed("tax " + "0".repeat(395) + "7", 7);
        });
    }

    private static void likeNumbers() {
        test("term II, TOKENS: a NUMBER that is a sign's byte is no sign", () -> {
            // 59 ;  40 (  41 )  91 [  93 ]  43 +  45 -  42 *  47 /  60 <  61 =  62 >
            for (int sign : new int[] {40, 41, 91, 93, 43, 45, 42, 47, 60, 61, 62, 59}) {
                taxed("tax " + sign, sign);
                taxed("tax 3 if " + sign + "=" + sign, 3);
                taxed("tax 3 if not " + sign + "=" + sign, 10);
                bad("tax 1 " + sign + " 1", 6);
                bad("spares " + sign + " spares", 7);
                bad("spares if 1 " + sign + " 1", 12);
                bad("spares if (1=1 " + sign, 15);
                bad("tax [1 " + sign, 7);
            }
        });
        test("term II, TOKENS: single bytes 0 to 31 are no words, no NUMBERS, no end", () -> {
            for (int b = 0; b < 32; b++) {
                bad((char) b + " 1", 0);
                bad("tax " + (char) b, 4);
                bad("tax 1 " + (char) b + " 1=1", 6);
                bad("spares if " + (char) b + " 1=1", 10);
                bad("spares if 1=1 " + (char) b + " 1=1", 14);
                bad("spares" + (char) b, 6);
            }
        });
        test("term II, TOKENS: NUMBERS are no words", () -> {
            for (int n = 0; n < 15; n++) {
                bad(n + " 1", 0);
                bad("spares " + n + " 1=1", 7);
                bad("spares if 1=1 " + n + " 1=1", 14);
                taxed("tax " + n + " if " + n + "=" + n, n);
            }
        });
    }

    private static void limits() {
        test("term II, PARTS: 50 are taken, and the 50th is asked", () -> taxed("tax 1" + "+1".repeat(48) + "+5", 54));
        test("term II, PARTS: FAULT at the 51st, be it a NUMBER or a word", () -> {
            bad("tax 1" + "+1".repeat(50), 104);
            bad("tax 1" + "+1".repeat(49) + "+off", 104);
            bad("tax 1" + "+1".repeat(49) + "+ 1001", 105);
        });
        test("term II, PARTS: words are counted as NUMBERS are", () -> {
            good("tax off" + "+off".repeat(49));
            bad("tax off" + "+off".repeat(50), 204);
        });
        test("term II, PARTS: of the whole TEXT, in TESTS too", () -> {
            good("tax 1" + "+1".repeat(47) + " if 1=1");
            bad("tax 1" + "+1".repeat(48) + " if 1=1", 107);
            good("tax 1" + "+1".repeat(48) + ";tax 1");
            bad("tax 1" + "+1".repeat(49) + ";tax 1", 108);
        });
        test("term II, PARTS: brackets and other words are none", () -> {
            good("tax [1]" + "+[1]".repeat(49));
            good("tax 1" + "+1".repeat(47) + " if not(not 1=1);spares;spares");
        });
        test("term II, PARTS: each TEXT has 50 of its own", () -> {
            SymmetryTax x = new SymmetryTax();
            due("one", Bounds.law(x, "tax 1" + "+1".repeat(49)), 0);
            due("another", Bounds.law(x, "tax 1" + "+1".repeat(49)), 1);
            due("too many", Bounds.law(x, "tax 1" + "+1".repeat(50)), -6);
            due("a third", Bounds.law(x, "tax 1" + "+1".repeat(49)), 2);
        });
        test("term II, brackets: 8 within one another are taken, FAULT at the 9th", () -> {
            taxed("tax [[[[[[[[7]]]]]]]]", 7);
            bad("tax [[[[[[[[[7]]]]]]]]]", 12);
            taxed("tax 7 if ((((((((1=1))))))))", 7);
            bad("tax 7 if (((((((((1=1)))))))))", 17);
        });
        test("term II, brackets: both kinds are counted together", () -> {
            taxed("tax 7 if (((([[[[1]]]]=1))))", 7);
            bad("tax 7 if (((([[[[[1]]]]]=1))))", 17);
            taxed("tax 7 if (((((((1=[1])))))))", 7);
            bad("tax 7 if ((((((((1=[1]))))))))", 19);
        });
        test("term II, brackets: they are counted behind each sign and word, too", () -> {
            for (String sign : new String[] {"+", "-", "*", "/"}) {
                good("tax [[[[[[[1" + sign + "[1]]]]]]]]");
                bad("tax [[[[[[[[1" + sign + "[1]]]]]]]]]", 14);
                good("tax 1" + sign + "[[[[[[[[1]]]]]]]]");
                bad("tax 1" + sign + "[[[[[[[[[1]]]]]]]]]", 14);
            }
            for (String sign : new String[] {"<", ">", "="}) {
                good("spares if (((((((1" + sign + "[1])))))))");
                bad("spares if ((((((((1" + sign + "[1]))))))))", 20);
                bad("spares if ((((((((1" + sign + "1+[1]))))))))", 22);
                bad("spares if 1" + sign + "[[[[[[[[[1]]]]]]]]]", 20);
            }
            for (String word : new String[] {" or ", " and ", " and not ", " or 2=2 and ", " and 2=2 or "}) {
                int at = 18 + 3 + word.length();
                good("spares if (((((((1=1" + word + "(1=1))))))))");
                bad("spares if ((((((((1=1" + word + "(1=1)))))))))", at);
                bad("spares if ((((((((1=1" + word + "[1]=1))))))))", at);
                bad("spares if ((((((((1=1" + word + "1=[1]))))))))", at + 2);
                bad("spares if ((((((((1=1" + word + "1*[1]=1))))))))", at + 2);
            }
        });
        test("term II, brackets: those that are shut again are not counted", () -> {
            good("tax " + "[1]+".repeat(20) + "[[[[[[[[1]]]]]]]]");
            good("spares if ((((((((1=1))))))))and((((((((1=1))))))))");
            good("tax [[[[[[[[1]]]]]]]] if ((((((((1=1))))))))");
        });
        test("term II, FAULT: the end's is the TEXT's length", () -> {
            bad("tax 1+", 6);
            bad("tax 1+    ", 10);
            bad("tax 1" + " ".repeat(394) + "+", 400);
        });
        test("term II, FAULT: the first TOKEN, though there are more", () -> {
            bad("tax ! ! !", 4);
            bad("tax 1001 1001", 4);
            bad("x y z", 0);
        });
        test("term II, TAPE: a TEXT of 400 bytes", () -> {
            taxed("tax 7" + " ".repeat(395), 7);
            taxed(" ".repeat(395) + "tax 7", 7);
            bad(" ".repeat(400), 400);
            bad(" ".repeat(399) + "x", 399);
            bad("(".repeat(400), 0);
            bad("tax " + "[".repeat(396), 12);
        });
        test("term II, TAPE: a TEXT of 400 bytes has 398 TOKENS at most", () -> {
            String bracketed = "[[[[[[[[1]]]]]]]]";
            String sum = "tax" + (bracketed + "+").repeat(22);
            taxed(sum + "1", 23);
            bad(sum, 399);
            bad(sum + "+", 399);
            bad("tax" + ("[".repeat(8) + "1" + "]".repeat(8) + "-").repeat(22) + "!", 399);
            bad("tax" + "!".repeat(397), 3);
            bad("!".repeat(400), 0);
        });
    }

    // ---- term II: what a law tells ----

    private static void asked() {
        test("term II, FORCE: NONE at first, no CLAUSE: each TAX is 10", () -> {
            SymmetryTax x = Bounds.of(1, 1);
            for (int like = 0; like < 6; like++) {
                due("tax", x.tax(0, like), 10);
            }
        });
        test("term II, like: 0 to 5", () -> {
            SymmetryTax x = Bounds.of(1, 1);
            Bounds.law(x, "tax like");
            x.force(0);
            for (int like = 0; like < 6; like++) {
                due("tax", x.tax(0, like), like);
            }
        });
        test("term II, off: 0 to 64", () -> {
            SymmetryTax x = Bounds.of(8, 8);
            Bounds.law(x, "tax off");
            x.force(0);
            due("none", x.tax(0, 0), 0);
            for (int c = 0; c < 64; c++) {
                x.paint(0, c % 8, c / 8, c % 8 / 4);
            }
            due("all", x.tax(0, 0), 64);
        });
        test("term II, off: 64 by one LIKENESS, 0 by the next", () -> {
            int[] parts = new int[64];
            for (int c = 0; c < 64; c++) {
                parts[c] = c % 8 / 4;
            }
            SymmetryTax x = Bounds.of(8, 8, parts);
            Bounds.law(x, "tax off");
            x.force(0);
            x.terms(0, 64);
            int[] off = {64, 0, 64, 32, 32, 32};
            for (int like = 0; like < 6; like++) {
                due("tax(0, " + like + ")", x.tax(0, like), off[like]);
            }
            due("owes(0)", x.owes(0), 224);
        });
        test("term II, off and parts: 64 and 10 at once, by each LIKENESS that can", () -> {
            // quarters of unlike PARTS, so that no CELL is as the one that it is taken to by 0, 1, 2, 5
            int[] parts = new int[64];
            for (int c = 0; c < 64; c++) {
                int quarter = c / 32 * 2 + c % 8 / 4;
                parts[c] = quarter == 0 ? c % 3 : quarter == 1 ? 3 + c % 3 : quarter == 2 ? 6 + c % 2 : 8 + c % 2;
            }
            SymmetryTax x = Bounds.of(8, 8, parts);
            Bounds.law(x, "tax off*10+parts");
            x.force(0);
            x.terms(0, 64);
            for (int like : new int[] {0, 1, 2, 5}) {
                due("off(0, " + like + ")", x.off(0, like), 64);
                due("tax(0, " + like + ")", x.tax(0, like), 650);
            }
            due("owes(0)", x.owes(0), 4 * 650 + x.tax(0, 3) + x.tax(0, 4));
        });
        test("term II, wide, tall, area: 1 to 8, 1 to 64", () -> {
            for (int size = 0; size < 64; size++) {
                int wide = size % 8 + 1;
                int tall = size / 8 + 1;
                SymmetryTax x = Bounds.of(wide, tall);
                Bounds.law(x, "tax wide*100+tall*10;tax area if like=1");
                x.force(0);
                due("wide and tall", x.tax(0, 0), wide * 100 + tall * 10);
                due("area", x.tax(0, 1), wide * tall);
            }
        });
        test("term II, owner: 0 to 5, day: 0 to 99", () -> {
            for (int owner = 0; owner < 6; owner += 5) {
                for (int day = 0; day < 100; day += 99) {
                    SymmetryTax x = new SymmetryTax();
                    x.thing(1, 1, owner);
                    x.terms(1, day);
                    Bounds.law(x, "tax owner*100+day");
                    x.force(0);
                    due("tax", x.tax(0, 0), owner * 100 + day);
                }
            }
        });
        test("term II, parts: 1 to 10", () -> {
            SymmetryTax x = Bounds.of(8, 8);
            Bounds.law(x, "tax parts");
            x.force(0);
            for (int part = 0; part < 10; part++) {
                x.paint(0, 7, 7 - part % 8, part);
                due("tax", x.tax(0, 0), x.fact(0, 3));
            }
            SymmetryTax y = Bounds.of(4, 3, 0, 1, 2, 3, 4, 5, 6, 7, 8, 9);
            Bounds.law(y, "tax parts");
            y.force(0);
            due("tax", y.tax(0, 0), 10);
        });
    }

    private static void broken() {
        test("term II, BROKEN: 1000000000 is not, one more is", () -> {
            taxed("tax 1000*1000*1000/1000/1000/2", 500);
            taxed("tax 5;tax [1000*1000*1000+1]/1000/1000/2", 5);
            taxed("tax [1000*1000*999+1000*1000]/1000/1000/2", 500);
            taxed("tax 5;tax [1000*1000*999+1000*1000+1]/1000/1000/2", 5);
        });
        test("term II, BROKEN: -1000000000 is not, one less is", () -> {
            taxed("tax 900+[0-1000*1000*1000]/1000/1000/2", 400);
            taxed("tax 5;tax 900+[0-1000*1000*1000-1]/1000/1000/2", 5);
            taxed("tax 900+1000*1000*[0-1000]/1000/1000/2", 400);
            taxed("tax 5;tax 900+1000*1000*[0-1000-1]/1000/1000/2", 5);
        });
        test("term II, BROKEN: far beyond does not come round", () -> {
            taxed("tax 5;tax 1000" + "*1000".repeat(20), 5);
            taxed("tax 5;tax [0-1000]" + "*1000".repeat(20), 5);
            taxed("tax 5;tax 1000*1000*1000*[1000*1000*1000]", 5);
            taxed("tax 5;tax 1000*1000*1000*[0-1000*1000*1000]", 5);
            taxed("tax 5;tax 1000*1000*1000*4*0", 5);
        });
        test("term II, BROKEN: a bracket that is so breaks all around it", () -> {
            taxed("tax 5;tax [1/0]*0", 5);
            taxed("tax 5;tax 7+[[1/[1-1]]]", 5);
            taxed("tax 5;tax 7 if [1/0]=[1/0]", 5);
        });
        test("term II, BROKEN: divided by 0", () -> {
            taxed("tax 5;tax 1/0", 5);
            taxed("tax 5;tax 0/0", 5);
            taxed("tax 5;tax 7/[3-3]", 5);
            taxed("tax 5;tax 7/[owner-4]", 5);
            taxed("tax 0/7", 0);
        });
        test("term II, / is cut towards 0", () -> {
            taxed("tax 7/2", 3);
            taxed("tax 1/2", 0);
            taxed("tax 10+[0-7]/2", 7);
            taxed("tax 10+7/[0-2]", 7);
            taxed("tax [0-7]/[0-2]", 3);
            taxed("tax 10+[0-1]/2", 10);
            taxed("tax 10+[0-6]/2", 7);
        });
        test("term II: * and / ahead of + and -, from the left", () -> {
            taxed("tax 2+3*4", 14);
            taxed("tax 20-8-4", 8);
            taxed("tax 100/10/5", 2);
            taxed("tax 100/10*5", 50);
            taxed("tax 7*3/2", 10);
            taxed("tax 7/2*3", 9);
            taxed("tax 20-[8-4]", 16);
            taxed("tax 100/[10/5]", 50);
            taxed("tax 10-2+3", 11);
        });
    }

    private static void holds() {
        test("term II, <, >, =: alike ones, one less, one more", () -> {
            String[] signs = {"<", ">", "="};
            int[][] want = {{10, 10, 3}, {3, 10, 10}, {10, 3, 10}};
            for (int s = 0; s < 3; s++) {
                for (int right = 4; right < 7; right++) {
                    taxed("tax 3 if 5" + signs[s] + right, want[s][right - 4]);
                }
            }
            taxed("tax 3 if 0-1<0", 3);
            taxed("tax 3 if 0-1000*1000*1000<1000*1000*1000", 3);
        });
        test("term II, CLAUSE: it HOLDS without if, and with one that is so", () -> {
            taxed("tax 3", 3);
            taxed("tax 3 if 1=1", 3);
            taxed("tax 3 if 1=2", 10);
            taxed("spares", 0);
            taxed("spares if 1=1", 0);
            taxed("spares if 1=2", 10);
        });
        test("term II, CLAUSE: one whose SUM or TEST is BROKEN does not hold", () -> {
            taxed("tax 1/0", 10);
            taxed("tax 1/0 if 1=1", 10);
            taxed("tax 3 if 1/0=1", 10);
            taxed("tax 3 if not 1/0=1", 10);
            taxed("spares if 1/0=1", 10);
            taxed("spares if not 1/0=1", 10);
        });
        test("term II, CLAUSE: one that is BROKEN breaks no other", () -> {
            taxed("tax 1/0;tax 3", 3);
            taxed("tax 3;tax 1/0", 3);
            taxed("tax 1/0;spares", 0);
            taxed("spares;tax 1/0", 0);
            taxed("spares if 1/0=1;tax 3", 3);
        });
        test("term II, or: what stands behind is asked only if it can matter", () -> {
            taxed("tax 3 if 1=1 or 1/0=1", 3);
            taxed("tax 3 if 1=2 or 1/0=1", 10);
            taxed("tax 3 if 1=2 or 1=1 or 1/0=1", 3);
            taxed("tax 3 if (1=2 or 1=1) or 1/0=1", 3);
            taxed("tax 3 if not (1=1 or 1/0=1)", 10);
            taxed("tax 3 if 1/0=1 or 1=1", 10);
        });
        test("term II, and: what stands behind is asked only if it can matter", () -> {
            taxed("tax 3 if not(1=2 and 1/0=1)", 3);
            taxed("tax 3 if not(1=1 and 1/0=1)", 10);
            taxed("tax 3 if not(1=2 and 1=1 and 1/0=1)", 3);
            taxed("tax 3 if 1=2 and 1/0=1 or 1=1", 3);
            taxed("tax 3 if not(1/0=1 and 1=2)", 10);
        });
        test("term II, or, and: and binds more, not binds most", () -> {
            taxed("tax 3 if 1=1 or 1=2 and 1=2", 3);
            taxed("tax 3 if 1=2 and 1=2 or 1=1", 3);
            taxed("tax 3 if (1=1 or 1=2) and 1=2", 10);
            taxed("tax 3 if not 1=1 or 1=1", 3);
            taxed("tax 3 if not 1=2 and 1=2", 10);
            taxed("tax 3 if not not 1=1", 3);
            taxed("tax 3 if not not not 1=1", 10);
        });
        test("term II, not: of what is so and of what is not, in brackets, and with each sign", () -> {
            taxed("tax 3 if not (not 1=1)", 3);
            taxed("tax 3 if not (not 1=2)", 10);
            taxed("tax 3 if not (not (not 1=1))", 10);
            for (String so : new String[] {"1=1", "1<2", "2>1", "not 1=2", "not 2<1", "not 1>2"}) {
                taxed("tax 3 if " + so, 3);
                taxed("tax 3 if not(" + so + ")", 10);
                taxed("tax 3 if not not(" + so + ")", 3);
                taxed("tax 3 if " + so + " and 1=1", 3);
                taxed("tax 3 if " + so + " and 1=2", 10);
                taxed("tax 3 if not(" + so + ") or 1=2", 10);
                taxed("tax 3 if not(" + so + ") or 1=1", 3);
            }
            for (String not : new String[] {"1=2", "2<1", "1<1", "1>2", "1>1", "not 1=1", "not 1<2", "not 2>1"}) {
                taxed("tax 3 if " + not, 10);
                taxed("tax 3 if not(" + not + ")", 3);
                taxed("tax 3 if " + not + " and 1=1", 10);
                taxed("tax 3 if " + not + " or 1=1", 3);
                taxed("tax 3 if " + not + " or 1=2", 10);
                taxed("tax 3 if not(" + not + ") and 1=1", 3);
            }
        });
        test("term II, TAX: the last tax that HOLDS", () -> {
            taxed("tax 3;tax 4;tax 5", 5);
            taxed("tax 3;tax 4;tax 5 if 1=2", 4);
            taxed("tax 3 if 1=2;tax 4 if 1=2", 10);
            taxed("tax 3;tax 0", 0);
        });
        test("term II, TAX: 0, if spares HOLDS, wherever it stands", () -> {
            taxed("spares;tax 5", 0);
            taxed("tax 5;spares", 0);
            taxed("tax 5;spares;tax 6", 0);
            taxed("tax 5;spares if 1=2;tax 6", 6);
            taxed("spares if 1=2;spares", 0);
        });
        test("term II, TAX: 0 and 999 at the sides, else the nearest", () -> {
            taxed("tax 0-1", 0);
            taxed("tax 0", 0);
            taxed("tax 1", 1);
            taxed("tax 998", 998);
            taxed("tax 999", 999);
            taxed("tax 1000", 999);
        });
    }

    // ---- term III ----

    private static void likenesses() {
        test("term III, LIKENESSES: corners and middles of 8 by 8 and 7 by 7", () -> {
            for (int side = 7; side <= 8; side++) {
                cornersOf(side);
            }
        });
        test("term III, LIKENESSES: one row, one column", () -> {
            SymmetryTax x = Bounds.of(4, 1, 1, 2, 2, 3);
            int[] row = {2, 0, 2, NONE, NONE, NONE};
            for (int like = 0; like < 6; like++) {
                due("off(0, " + like + ")", x.off(0, like), row[like]);
            }
            x = Bounds.of(1, 4, 1, 2, 2, 3);
            int[] column = {0, 2, 2, NONE, NONE, NONE};
            for (int like = 0; like < 6; like++) {
                due("off(0, " + like + ")", x.off(0, like), column[like]);
            }
        });
        test("term III, OFF: by 5 a CELL is asked against the one it is taken to, four in a ring", () -> {
            // 0, 0 to 1, 0 to 1, 1 to 0, 1
            due("one of four", Bounds.of(2, 2, 1, 0, 0, 0).off(0, 5), 2);
            due("two that follow", Bounds.of(2, 2, 1, 1, 0, 0).off(0, 5), 2);
            due("two that do not", Bounds.of(2, 2, 1, 0, 0, 1).off(0, 5), 4);
            due("three alike", Bounds.of(2, 2, 1, 1, 0, 1).off(0, 5), 2);
        });
        test("term III, HAS: not more OFF than SLACK", () -> {
            for (int slack = 0; slack <= 64; slack++) {
                SymmetryTax x = Bounds.of(8, 2, 0, 0, 0, 0, 1, 1, 1, 1, 2, 2, 2, 2, 2, 2, 3, 3);
                x.terms(0, slack);
                due("slack " + slack, x.has(0), (slack >= 12 ? 1 : 0) + (slack >= 16 ? 6 : 0));
            }
        });
        test("term III, OWES: nothing, if it HAS none; all, if it HAS all", () -> {
            SymmetryTax x = Bounds.of(2, 2, 1, 2, 3, 4);
            due("none", x.owes(0), 0);
            x.terms(0, 1);
            due("none by 1", x.owes(0), 0);
            x.terms(0, 2);
            due("3 and 4 by 2", x.owes(0), 20);
            x.terms(0, 4);
            due("all by 4", x.owes(0), 60);
        });
    }

    /** Corners are 1 2 above 3 4; the far corner is taken to another by each form. */
    private static void cornersOf(int side) {
        int far = side - 1;
        SymmetryTax x = Bounds.of(side, side);
        x.paint(0, 0, 0, 1);
        x.paint(0, far, 0, 2);
        x.paint(0, 0, far, 3);
        x.paint(0, far, far, 4);
        int[] near = {2, 3, 4, 1, 4, 2, 1, 3};
        int[] right = {1, 4, 3, 3, 2, 4, 2, 1};
        int[] below = {4, 1, 2, 2, 3, 1, 3, 4};
        int[] last = {3, 2, 1, 4, 1, 3, 4, 2};
        for (int form = 0; form < 8; form++) {
            due("form " + form + " at 0, 0", x.form(0, form, 0, 0), near[form]);
            due("form " + form + " right", x.form(0, form, far, 0), right[form]);
            due("form " + form + " below", x.form(0, form, 0, far), below[form]);
            due("form " + form + " last", x.form(0, form, far, far), last[form]);
        }
    }

    private static void paintedOver() {
        test("term III, QUITE ALIKE: CELLS that are taken to one another again and again get one PART", () -> {
            SymmetryTax x = Bounds.of(3, 3, 5, 1, 5, 2, 9, 1, 6, 1, 7);
            int[] then = {5, 1, 5, 1, 9, 1, 5, 1, 5};
            for (int c = 0; c < 9; c++) {
                due("cell " + c, x.quiteAt(0, 5, c % 3, c / 3), then[c]);
            }
            due("painted", x.quite(0, 5), 3);
        });
        test("term III, QUITE ALIKE: SLACK does not matter", () -> {
            SymmetryTax x = Bounds.of(2, 1, 1, 2);
            x.terms(0, 64);
            due("quite", x.quite(0, 0), 1);
        });
        test("term III, FREE: SLACK and LAW matter", () -> {
            SymmetryTax x = Bounds.of(2, 2);
            x.terms(0, 2);
            // one CELL of four is OFF by 2 at most
            due("by slack 2", x.free(0, 1, 0), NONE);
            Bounds.law(x, "tax 1 if off=0;spares if off>0");
            x.force(0);
            due("by a LAW", x.free(0, 1, 0), NONE);
            Bounds.law(x, "tax 1;spares if parts=2");
            x.force(1);
            due("by another", x.free(0, 1, 0), 1);
            due("in each CELL", x.free(0, 1, 4), 4);
        });
        test("term III, FREE: three CELLS of 8 by 8, the last ones", () -> {
            SymmetryTax x = Bounds.of(8, 8, new int[64]);
            x.paint(0, 5, 7, 1);
            x.paint(0, 6, 7, 2);
            x.paint(0, 7, 7, 3);
            Bounds.law(x, "tax 1;spares if parts=1");
            x.force(0);
            x.terms(0, 64);
            due("three", x.free(0, 0, 0), 3);
            for (int what = 1; what < 4; what++) {
                due("cell " + what, x.free(0, 0, what), 60 + what);
            }
            due("one way", x.free(0, 0, 4), 1);
            x.paint(0, 0, 0, 4);
            due("four are too many", x.free(0, 0, 0), NONE);
            due("no way", x.free(0, 0, 4), 0);
        });
        test("term III, FREE: in how many ways, by three CELLS", () -> {
            // parts 1 to 4 on 8 by 1, three of them painted with 1: any three of the others leave too many, or just two
            SymmetryTax x = Bounds.of(8, 1, 1, 1, 1, 1, 1, 2, 3, 4);
            Bounds.law(x, "tax 1;spares if parts<3");
            x.force(0);
            due("two", x.free(0, 1, 0), 2);
            due("first", x.free(0, 1, 1), 5);
            due("second", x.free(0, 1, 2), 6);
            due("ways", x.free(0, 1, 4), 3);
            Bounds.law(x, "tax 1;spares if parts=1");
            x.force(1);
            due("three", x.free(0, 1, 0), 3);
            due("ways", x.free(0, 1, 4), 1);
        });
    }

    /** Tries by hand which rows of so many cells make the thing owe nothing; tells how many, and the first row. */
    private static int freeByHand(Bounds.Act setup, int part, int area, int wide, int[] row, int put, int[] first) {
        if (put == row.length) {
            int owed = Bounds.made(setup.then(x -> {
                for (int cell : row) {
                    x.paint(0, cell % wide, cell / wide, part);
                }
            })).owes(0);
            if (owed == 0 && first[0] == NONE) {
                System.arraycopy(row, 0, first, 0, row.length);
            }
            return owed == 0 ? 1 : 0;
        }
        int ways = 0;
        for (int cell = put == 0 ? 0 : row[put - 1] + 1; cell < area; cell++) {
            row[put] = cell;
            ways += freeByHand(setup, part, area, wide, row, put + 1, first);
        }
        return ways;
    }

    private static void freedAsByHand(Bounds.Act setup, int part) {
        SymmetryTax x = Bounds.made(setup);
        int wide = x.fact(0, 0);
        int area = wide * x.fact(0, 1);
        int fewest = NONE;
        int ways = 0;
        int[] first = {NONE, NONE, NONE};
        if (x.owes(0) == 0) {
            fewest = 0;
            ways = 1;
        }
        for (int k = 1; k <= 3 && ways == 0; k++) {
            ways = freeByHand(setup, part, area, wide, new int[k], 0, first);
            fewest = ways > 0 ? k : NONE;
        }
        due("fewest", x.free(0, part, 0), fewest);
        for (int what = 1; what < 4; what++) {
            due("cell " + what, x.free(0, part, what), first[what - 1]);
        }
        due("ways", x.free(0, part, 4), ways);
    }

    private static void searches() {
        String[] laws = {"tax 1", "tax off*3-parts", "tax parts*2-off-2", "tax 1;spares if off+parts=5", "tax 4-parts;spares if like>2",
            "tax 1;spares if off=4 and parts=2 or off=2 and parts=4"};
        int[][] things = {{3, 3, 1, 2, 1, 2, 3, 2, 1, 2, 1}, {4, 2, 1, 2, 2, 1, 0, 3, 3, 0}, {3, 3}, {2, 2, 4, 4, 5, 5}};
        test("term III, FREE: as if all rows of CELLS were painted by hand", () -> {
            for (String text : laws) {
                for (int[] thing : things) {
                    for (int slack = 0; slack < 5; slack += 2) {
                        int most = slack;
                        Bounds.Act setup = x -> {
                            Bounds.add(x, thing[0], thing[1], 0, Arrays.copyOfRange(thing, 2, thing.length));
                            Bounds.law(x, text);
                            x.force(0);
                            x.terms(0, most);
                        };
                        freedAsByHand(setup, 2);
                        freedAsByHand(setup, 7);
                    }
                }
            }
        });
        test("term III, FILLINGS: as if all HOLES were painted by hand", () -> {
            for (String text : laws) {
                for (int[] thing : things) {
                    filledAsByHand(text, thing, 2);
                    filledAsByHand(text, thing, 3);
                }
            }
        });
    }

    /** Four holes, in the first and the last two cells. */
    private static void filledAsByHand(String text, int[] thing, int parts) {
        int wide = thing[0];
        int area = wide * thing[1];
        int[] cells = {0, 1, area - 2, area - 1};
        Bounds.Act setup = x -> {
            Bounds.add(x, wide, thing[1], 0, Arrays.copyOfRange(thing, 2, thing.length));
            Bounds.law(x, text);
            x.force(0);
            x.terms(0, 4);
            for (int cell : cells) {
                x.hole(0, cell % wide, cell / wide, 1);
            }
        };
        TreeMap<Integer, int[]> found = new TreeMap<>();
        for (int n = 0; n < parts * parts * parts * parts; n++) {
            SymmetryTax x = Bounds.made(setup);
            int[] got = {n % parts, n / parts % parts, n / parts / parts % parts, n / parts / parts / parts, 0};
            for (int h = 0; h < 4; h++) {
                x.paint(0, cells[h] % wide, cells[h] / wide, got[h]);
            }
            int[] all = found.computeIfAbsent(x.owes(0), sum -> got.clone());
            for (int h = 0; h < 4; h++) {
                all[h] = all[h] == got[h] ? got[h] : NONE;
            }
            all[4]++;
        }
        SymmetryTax x = Bounds.made(setup);
        found.forEach((sum, all) -> {
            due("fills, " + sum, x.fills(0, parts, sum), all[4]);
            for (int h = 0; h < 4; h++) {
                due("sure, " + sum, x.sure(0, parts, sum, cells[h] % wide, cells[h] / wide), all[h]);
            }
        });
    }

    private static void street() {
        test("term III, STREET: PLACES 0 to 9, one THING in each at most", () -> {
            SymmetryTax x = new SymmetryTax();
            x.thing(1, 1, 0);
            x.thing(1, 1, 0);
            for (int place = 0; place < 10; place++) {
                due("one", x.place(0, place), place - 1);
                due("another", x.place(1, place), -3);
            }
            due("10", x.place(0, 10), -1);
        });
        test("term III, STREET: TWINS are of the same sides", () -> {
            SymmetryTax x = Bounds.of(1, 2);
            x.thing(2, 1, 0);
            x.thing(1, 1, 0);
            for (int t = 0; t < 3; t++) {
                x.place(t, t);
            }
            x.terms(2, 9);
            due("pairs", x.street(1), 0);
        });
        test("term III, STREET: by FORM 0 alone", () -> {
            int[][] forms = {{2, 1, 4, 3}, {3, 4, 1, 2}, {4, 3, 2, 1}, {1, 3, 2, 4}, {4, 2, 3, 1}, {2, 4, 1, 3}, {1, 2, 3, 4}};
            for (int n = 0; n < 7; n++) {
                SymmetryTax x = Bounds.of(2, 2, 1, 2, 3, 4);
                Bounds.add(x, 2, 2, 0, forms[n]);
                x.place(0, 3);
                x.place(1, 4);
                due("form " + n, x.street(1), n == 0 ? 1 : 0);
            }
        });
        test("term III, STREET: OWNERS do not matter, and TWINS are no TAX", () -> {
            SymmetryTax x = new SymmetryTax();
            Bounds.add(x, 2, 2, 0, 1, 2, 3, 4);
            Bounds.add(x, 2, 2, 5, 2, 1, 4, 3);
            x.place(0, 3);
            x.place(1, 4);
            due("pairs", x.street(1), 1);
            due("owes", x.owes(NONE), 0);
        });
        test("term III, BEST: the same PLACES, by the first row of THINGS", () -> {
            SymmetryTax x = new SymmetryTax();
            for (int t = 0; t < 6; t++) {
                x.thing(1, 1, 0);
                x.place(t, 9 - t);
            }
            for (int place = 4; place < 10; place++) {
                due("bestAt(" + place + ")", x.bestAt(place), place - 4);
            }
            due("bestAt(3)", x.bestAt(3), NONE);
            due("as they stand", x.fact(0, 5), 9);
        });
        test("term III, BEST: never more than as it stands, and NEAR counts", () -> {
            // 0 and 1 are TWINS, 2 and 3 are not: PLACES 0, 1, 2, 9
            SymmetryTax x = Bounds.of(2, 1, 1, 2);
            Bounds.add(x, 2, 1, 0, 2, 1);
            Bounds.add(x, 2, 1, 0, 5, 6);
            Bounds.add(x, 2, 1, 0, 7, 8);
            int[] places = {0, 1, 2, 9};
            for (int t = 0; t < 4; t++) {
                x.place(t, places[t]);
            }
            due("as it stands", x.street(0), 5);
            due("best by 1", x.best(0), 0);
            // unordered pairs of PLACES more than NEAR apart, twice each for 0 and 1, twice for 2 and 3
            due("rows by 1", x.best(1), 4 * 4);
            x.terms(2, 6);
            due("rows by 6", x.best(1), 3 * 4);
            x.terms(2, 7);
            due("rows by 7", x.best(1), 2 * 4);
            x.terms(2, 8);
            due("rows by 8", x.best(1), 4);
            due("best by 8", x.best(0), 0);
            x.terms(2, 9);
            due("rows by 9", x.best(1), 24);
            due("best by 9", x.best(0), 5);
        });
    }

    private static void squares() {
        test("term III, RULER: 1 to 8 on 8 by 8 of one PART", () -> {
            SymmetryTax x = Bounds.of(8, 8);
            // by 1, 2, 4, 8 all SQUARES are whole; by others the far ones are less
            int[] by0 = {0, 0, 6, 0, 4, 4, 4, 0};
            for (int r = 1; r <= 8; r++) {
                due("ruler(0, 0, " + r + ")", x.ruler(0, 0, r), by0[r - 1]);
                due("ruler(0, 1, " + r + ")", x.ruler(0, 1, r), by0[r - 1]);
                due("ruler(0, 3, " + r + ")", x.ruler(0, 3, r), 0);
            }
        });
        test("term III, RULER: a part of a SQUARE at both far sides", () -> {
            // 5 by 5 by 3: 3 by 3, 2 by 3, 3 by 2, 2 by 2
            SymmetryTax x = Bounds.of(5, 5);
            int[] off = {4, 4, 2, 0, 2, 4};
            for (int like = 0; like < 6; like++) {
                due("ruler(0, " + like + ", 3)", x.ruler(0, like, 3), off[like]);
            }
        });
        test("term III, RULER: a lesser SQUARE is unlike by one PART alone, whichever it is", () -> {
            for (int part = 0; part < 10; part++) {
                for (int other = 0; other < 10; other++) {
                    // the first SQUARE has both, the lesser one has the other alone
                    SymmetryTax x = Bounds.of(3, 1, part, other, other);
                    due(part + " and " + other, x.ruler(0, 0, 2), 2);
                    due("one SQUARE", x.ruler(0, 0, 3), 0);
                }
            }
        });
        test("term III, RULER: as many SQUARES as lie in WIDE and TALL, one more if something is left", () -> {
            SymmetryTax x = Bounds.of(8, 1, 0, 0, 0, 0, 0, 0, 0, 9);
            int[] by0 = {2, 2, 2, 2, 2, 2, 2, 0};
            for (int r = 1; r <= 8; r++) {
                due("ruler(0, 0, " + r + ")", x.ruler(0, 0, r), by0[r - 1]);
                due("ruler(0, 1, " + r + ")", x.ruler(0, 1, r), 0);
            }
        });
    }

    /** What each square of a thing has, as a row of how many of each part. */
    private static String[][] squaresByHand(int wide, int tall, int r, int... parts) {
        String[][] squares = new String[(tall + r - 1) / r][(wide + r - 1) / r];
        for (int down = 0; down < squares.length; down++) {
            for (int along = 0; along < squares[0].length; along++) {
                int[] has = new int[10];
                for (int y = down * r; y < Math.min(tall, down * r + r); y++) {
                    for (int x = along * r; x < Math.min(wide, along * r + r); x++) {
                        has[parts[y * wide + x]]++;
                    }
                }
                squares[down][along] = Arrays.toString(has);
            }
        }
        return squares;
    }

    private static int offByHand(String[][] cells, int like) {
        int tall = cells.length;
        int wide = cells[0].length;
        int off = 0;
        for (int y = 0; y < tall; y++) {
            for (int x = 0; x < wide; x++) {
                int[][] to = {{wide - 1 - x, y}, {x, tall - 1 - y}, {wide - 1 - x, tall - 1 - y}, {y, x},
                    {tall - 1 - y, wide - 1 - x}, {tall - 1 - y, x}};
                off += cells[y][x].equals(cells[to[like][1]][to[like][0]]) ? 0 : 1;
            }
        }
        return off;
    }

    private static void measuredByHand(int wide, int tall, int... parts) {
        SymmetryTax x = Bounds.of(wide, tall, parts);
        for (int r = 1; r <= 8; r++) {
            String[][] squares = squaresByHand(wide, tall, r, parts);
            for (int like = 0; like < 6; like++) {
                int want = like > 2 && wide != tall ? NONE : offByHand(squares, like);
                due(wide + " by " + tall + ", ruler(0, " + like + ", " + r + ")", x.ruler(0, like, r), want);
            }
        }
    }

    private static void squaresOfAllSides() {
        test("term III, RULER: of 1 to 8 on sides of 1 to 8 each, with far SQUARES that are less", () -> {
            for (int wide = 1; wide <= 8; wide++) {
                for (int tall = 1; tall <= 8; tall++) {
                    for (int parts = 1; parts <= 10; parts++) {
                        int[] cells = new int[wide * tall];
                        int drawn = wide * 100 + tall * 10 + parts;
                        for (int c = 0; c < cells.length; c++) {
                            drawn = draw(drawn);
                            cells[c] = drawn / 7 % parts;
                        }
                        measuredByHand(wide, tall, cells);
                    }
                }
            }
        });
    }

    // ---- term IV ----

    private static int draw(int drawn) {
        return (int) ((drawn * 1103L + 12345) % 1_000_003);
    }

    /** Paints by hand what a daubing does on paper, and asks what is owed on each day. */
    private static void daubedByHand(int seed, int day, Bounds.Act setup) {
        SymmetryTax x = Bounds.made(setup);
        SymmetryTax y = Bounds.made(setup);
        x.terms(1, day);
        int sum = x.daub(seed, 40);
        int drawn = seed;
        for (int i = 0; i < 40; i++) {
            for (int t = 0; t < x.count(0); t++) {
                int wide = y.fact(t, 0);
                drawn = draw(drawn);
                int cell = drawn % (wide * y.fact(t, 1));
                drawn = draw(drawn);
                y.paint(t, cell % wide, cell / wide, drawn % 10);
            }
            y.terms(1, day + i);
            int owed = y.owes(NONE);
            due("seed " + seed + ", day " + i, x.daubed(i), owed);
            sum -= owed;
        }
        due("all days", sum, 0);
    }

    private static void daubing() {
        test("term IV, DAUBING: DRAWS from SEEDS 0 and 1000000, THING by THING, on 40 days up to DAY 99", () -> {
            Bounds.Act setup = x -> {
                Bounds.add(x, 2, 2, 0, 1, 2, 2, 1);
                x.hole(0, 0, 0, 1);
                x.thing(8, 1, 3);
                Bounds.law(x, "tax off*7+parts+day;spares if day=70 and like=1");
                x.force(0);
                x.terms(0, 6);
            };
            for (int seed : new int[] {0, 1, 500_000, 999_999, 1_000_000}) {
                daubedByHand(seed, 60, setup);
                daubedByHand(seed, 0, setup);
            }
        });
        test("term IV, DAUBING: by the LAW in FORCE, be it none, the first or the last", () -> {
            for (int law = NONE; law < 6; law++) {
                SymmetryTax x = Bounds.of(1, 1);
                for (int l = 0; l < 6; l++) {
                    Bounds.law(x, "tax " + (l + 1));
                }
                x.force(law);
                int each = law == NONE ? 60 : 6 * (law + 1);
                due("LAW " + law, x.daub(3, 40), 40 * each);
                due("LAW " + law + ", the last day", x.daubed(39), each);
            }
        });
        test("term IV, DAUBING: by SLACK as it stands", () -> {
            // 12345 (CELL 1), 628841 (PART 1)
            SymmetryTax x = Bounds.of(2, 1, 7, 7);
            due("SLACK 0", x.daub(0, 1), 10);
            x.terms(0, 1);
            due("SLACK 1", x.daub(0, 1), 10);
            x.terms(0, 2);
            due("SLACK 2", x.daub(0, 1), 30);
        });
        test("term IV, DAUBING: a DRAW of one CELL is taken all the same", () -> {
            Bounds.Act setup = x -> {
                x.thing(1, 1, 0);
                Bounds.add(x, 2, 1, 0, 1, 1);
            };
            for (int seed = 0; seed < 10; seed++) {
                daubedByHand(seed, 0, setup);
            }
        });
        test("term IV, DAUBING: the first day is DAY, and days go on beyond 99", () -> {
            SymmetryTax x = Bounds.of(1, 1);
            Bounds.law(x, "tax 0;tax day if like=0");
            x.force(0);
            x.terms(1, 99);
            due("daub", x.daub(0, 40), 40 * 99 + 40 * 39 / 2);
            due("the first", x.daubed(0), 99);
            due("the second", x.daubed(1), 100);
            due("the last", x.daubed(39), 138);
            due("DAY stays", x.count(11), 99);
        });
        test("term IV, DAUBING: s is taken modulo 1000003", () -> {
            // 1000000 times 1103 and 12345 is 1103 times 1000003 and 9036: CELL 4 of 8; 9036 becomes 979026: PART 6
            SymmetryTax x = Bounds.of(8, 1, 6, 6, 6, 6, 0, 6, 6, 6);
            due("s", draw(1_000_000), 9036);
            due("s again", draw(9036), 979_026);
            Bounds.law(x, "tax 0;tax parts if like=1");
            x.force(0);
            due("as it is", x.owes(0), 2);
            due("all are 6", x.daub(1_000_000, 1), 1);
        });
    }

    private static void rows() {
        test("term IV, ROW: its CELLS row by row, y 0 first", () -> {
            SymmetryTax x = Bounds.of(2, 3);
            due("row", Bounds.row(x, 0, 1, 2, 3, 4, 5, 6), 6);
            for (int c = 0; c < 6; c++) {
                due("cell " + c, x.of(0, c % 2, c / 2), c + 1);
            }
        });
        test("term IV, ROW: each byte: 0 to 9 paint, 10 to 255 leave a CELL as it was", () -> {
            for (int b = 0; b < 256; b++) {
                SymmetryTax x = Bounds.of(1, 1, 5);
                due("row, " + b, Bounds.row(x, 0, b), b < 10 ? 1 : 0);
                due("cell, " + b, x.of(0, 0, 0), b < 10 ? b : 5);
            }
        });
        test("term IV, ROW: each first byte: a THING or -6", () -> {
            for (int b = 0; b < 256; b++) {
                SymmetryTax x = new SymmetryTax();
                for (int t = 0; t < 6; t++) {
                    x.thing(1, 1, 0);
                }
                due("row, " + b, Bounds.row(x, b, 1), b < 6 ? 1 : -6);
                due("status, " + b, x.status(), b < 6 ? 0 : -6);
                due("painted, " + b, x.of(b, 0, 0), b < 6 ? 1 : NONE);
                due("bytes, " + b, x.count(3), 0);
            }
        });
        test("term IV, ROW: a byte that leaves a CELL is no FLAKE, a PART beyond the CELLS is one", () -> {
            SymmetryTax x = Bounds.of(2, 1);
            due("row", Bounds.row(x, 0, 77, 1, 1, 77), 1);
            due("flakes", x.flakes(), 2);
            due("row", Bounds.row(x, 0, 77, 77), 0);
            due("flakes", x.flakes(), 0);
        });
    }

    private static void images() {
        test("term IV, IMAGES: 0 and 1, each by itself", () -> {
            SymmetryTax x = new SymmetryTax();
            due("back(0)", x.back(0), -2);
            due("back(1)", x.back(1), -2);
            x.image(1);
            due("back(0)", x.back(0), -2);
            due("back(1)", x.back(1), 0);
            x.image(0);
            due("back(0)", x.back(0), 0);
        });
        test("term IV, IMAGES: all but the TAPE, FAULT, FLAKES, the latest DAUBING", () -> {
            Bounds.Act kept = x -> {
                Bounds.rich(x);
                x.image(1);
            };
            Bounds.Act empty = x -> {
                x.image(0);
                x.image(1);
            };
            Bounds.alike("back to an empty one", empty, empty.then(x -> {
                Bounds.add(x, 3, 3, 5, 1, 2, 3);
                x.hole(0, 0, 0, 1);
                x.place(0, 9);
                Bounds.law(x, "tax 5");
                x.force(0);
                x.terms(0, 64);
                x.terms(1, 99);
                x.terms(2, 9);
                x.terms(3, 999);
                x.back(1);
            }));
            SymmetryTax x = Bounds.made(kept.then(y -> {
                y.end(2);
                y.daub(0, 40);
                y.back(1);
            }));
            due("TAPE", x.count(3), 2);
            due("DAUBING", x.daubed(40 - 1) == NONE ? 1 : 0, 0);
        });
        test("term IV, IMAGES: each CELL of 8 by 8 comes back, painted or a HOLE", () -> {
            for (int c = 0; c < 64; c++) {
                SymmetryTax x = Bounds.of(8, 8);
                x.paint(0, c % 8, c / 8, 4);
                x.hole(0, c % 8, c / 8, 1);
                x.image(0);
                x.paint(0, c % 8, c / 8, 5);
                x.hole(0, c % 8, c / 8, 0);
                x.image(1);
                x.back(0);
                due("cell " + c, x.of(0, c % 8, c / 8), 4);
                due("hole " + c, x.hole(0, c % 8, c / 8, 0), 1);
                x.back(1);
                due("cell " + c, x.of(0, c % 8, c / 8), 5);
                due("hole " + c, x.hole(0, c % 8, c / 8, 1), 0);
            }
        });
        test("term IV, IMAGES: each of six LAWS comes back, though another one had its number", () -> {
            for (int from = 0; from < 6; from++) {
                SymmetryTax x = Bounds.of(1, 1);
                for (int l = 0; l < 6; l++) {
                    if (l == from) {
                        x.image(0);
                    }
                    Bounds.law(x, "tax " + (l + 1));
                }
                x.image(1);
                x.back(0);
                for (int l = from; l < 6; l++) {
                    due("another", Bounds.law(x, "tax " + (l + 51)), l);
                }
                for (int l = 0; l < 6; l++) {
                    due("LAW " + l, x.brings(l), 6 * (l < from ? l + 1 : l + 51));
                }
                x.back(1);
                for (int l = 0; l < 6; l++) {
                    due("LAW " + l + " of then", x.brings(l), 6 * (l + 1));
                }
            }
        });
        test("term IV, IMAGES: each of six THINGS and six LAWS comes back", () -> {
            Bounds.Act full = x -> {
                for (int t = 0; t < 6; t++) {
                    Bounds.add(x, t + 1, 8 - t, t, t + 1, t + 2, t + 3);
                    x.hole(t, 0, 2, 1);
                    x.place(t, t + 4);
                    Bounds.law(x, "tax like*10+" + t);
                }
                x.force(5);
                x.image(0);
                x.image(1);
            };
            Bounds.alike("back to a full one", full, full.then(x -> {
                for (int t = 0; t < 6; t++) {
                    x.paint(t, t, 7 - t, 9);
                    x.paint(t, 0, 0, 0);
                    x.hole(t, 0, 2, 0);
                    x.hole(t, 0, 1, 1);
                    x.place(t, NONE);
                }
                x.force(0);
                x.back(1);
            }), "flakes()");
        });
    }

    public static void main(String[] args) {
        things();
        refusals();
        tokens();
        clauses();
        grammar();
        likeNumbers();
        limits();
        asked();
        broken();
        holds();
        likenesses();
        paintedOver();
        searches();
        street();
        squares();
        squaresOfAllSides();
        daubing();
        rows();
        images();
        Bounds.finish();
    }
}
