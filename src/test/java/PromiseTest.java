import java.nio.charset.StandardCharsets;

/** For each promise ordinary inputs, the edges that the document names, and wrong inputs; answers worked out by hand. */
public final class PromiseTest {
    private static final int NONE = SymmetryTax.NONE;
    private static int wrong = 0;
    private static int promise = 0;
    private static int asked = 0;

    private static void due(String call, int got, int want) {
        asked++;
        if (got != want) {
            wrong++;
            System.out.println("promise " + promise + ": " + call + " answered " + got + ", due is " + want);
        }
    }

    /** The tape must be empty. */
    private static void tape(SymmetryTax x, byte[] bytes) {
        for (int k = 0; k < bytes.length; k += 20) {
            int[] n = new int[5];
            for (int i = 0; i < 20; i++) {
                n[i / 4] = n[i / 4] << 8 | (k + i < bytes.length ? bytes[k + i] & 255 : 0);
            }
            x.feed(n[0], n[1], n[2], n[3], n[4]);
        }
        x.end(bytes.length);
    }

    private static int law(SymmetryTax x, String text) {
        tape(x, text.getBytes(StandardCharsets.ISO_8859_1));
        return x.law();
    }

    private static void good(String text) {
        SymmetryTax x = new SymmetryTax();
        due("law: " + text, law(x, text), 0);
        due("fault: " + text, x.fault(), NONE);
    }

    private static void bad(String text, int place) {
        SymmetryTax x = new SymmetryTax();
        due("law: " + text, law(x, text), -6);
        due("fault: " + text, x.fault(), place);
    }

    /** Of a thing 3 wide, 2 tall, owner 4, with parts 0 and 7, on day 9, by likeness 1 (off 2). */
    private static void taxed(String text, int want) {
        SymmetryTax x = new SymmetryTax();
        x.thing(3, 2, 4);
        x.paint(0, 1, 1, 7);
        x.terms(1, 9);
        due("law: " + text, law(x, text), 0);
        x.force(0);
        due("tax: " + text, x.tax(0, 1), want);
    }

    private static SymmetryTax rows(int wide, int tall, int... parts) {
        SymmetryTax x = new SymmetryTax();
        add(x, wide, tall, 0, parts);
        return x;
    }

    private static int add(SymmetryTax x, int wide, int tall, int owner, int... parts) {
        int t = x.thing(wide, tall, owner);
        for (int c = 0; c < parts.length; c++) {
            x.paint(t, c % wide, c / wide, parts[c]);
        }
        return t;
    }

    private static void things() {
        promise = 1;
        SymmetryTax x = new SymmetryTax();
        due("NONE", SymmetryTax.NONE, -1);
        for (int what = 0; what <= 8; what++) {
            due("count " + what, x.count(what), 0);
        }
        due("in force", x.count(9), NONE);
        due("slack", x.count(10), 0);
        due("day", x.count(11), 0);
        due("near", x.count(12), 1);
        due("twin", x.count(13), 5);
        due("status", x.status(), 0);
        due("fault", x.fault(), NONE);
        due("flakes", x.flakes(), 0);
        due("owes", x.owes(NONE), 0);
        due("street", x.street(0), 0);
        due("daubed", x.daubed(0), NONE);
        due("dearest", x.dearest(), NONE);

        promise = 2;
        due("0 wide", x.thing(0, 1, 0), -1);
        due("9 wide", x.thing(9, 1, 0), -1);
        due("0 tall", x.thing(1, 0, 0), -1);
        due("9 tall", x.thing(1, 9, 0), -1);
        due("owner 6", x.thing(1, 1, 6), -1);
        due("owner -1", x.thing(1, 1, -1), -1);
        due("least", x.thing(1, 1, 0), 0);
        due("most", x.thing(8, 8, 5), 1);
        for (int t = 2; t < 6; t++) {
            due("thing", x.thing(2, 3, 1), t);
        }
        due("a seventh", x.thing(2, 3, 1), -5);
        due("a number that can't be ahead of no room", x.thing(2, 3, 6), -1);
        due("things", x.count(0), 6);

        promise = 3;
        x = rows(3, 2, 0, 1, 2, 0, 1, 9);
        x.hole(0, 1, 1, 1);
        x.place(0, 7);
        int[] facts = {3, 2, 0, 4, 1, 7};
        for (int what = 0; what < 6; what++) {
            due("fact " + what, x.fact(0, what), facts[what]);
        }
        due("fact 6", x.fact(0, 6), NONE);
        due("fact -1", x.fact(0, -1), NONE);
        due("no thing", x.fact(1, 0), NONE);
        due("thing -1", x.fact(-1, 0), NONE);
        x.place(0, NONE);
        due("no place", x.fact(0, 5), NONE);
        x.thing(1, 4, 3);
        due("owner", x.fact(1, 2), 3);
        due("unlike parts of a new one", x.fact(1, 3), 1);

        promise = 4;
        x = rows(3, 2);
        due("paint", x.paint(0, 2, 1, 9), 0);
        due("paint again", x.paint(0, 2, 1, 4), 9);
        due("part 10", x.paint(0, 0, 0, 10), -1);
        due("part -1 ahead of no thing", x.paint(5, 0, 0, -1), -1);
        due("no thing ahead of no cell", x.paint(1, 9, 9, 1), -2);
        due("x 3", x.paint(0, 3, 0, 1), -1);
        due("y 2", x.paint(0, 0, 2, 1), -1);
        due("x -1", x.paint(0, -1, 1, 1), -1);
        due("y -1", x.paint(0, 1, -1, 1), -1);
        due("status", x.status(), -1);

        promise = 5;
        due("of", x.of(0, 2, 1), 4);
        due("of a cell not painted", x.of(0, 1, 1), 0);
        due("x 3", x.of(0, 3, 0), NONE);
        due("y 2", x.of(0, 0, 2), NONE);
        due("x -1", x.of(0, -1, 1), NONE);
        due("no thing", x.of(1, 0, 0), NONE);
        due("thing -1", x.of(-1, 0, 0), NONE);

        promise = 6;
        due("hole", x.hole(0, 0, 0, 1), 0);
        due("hole again", x.hole(0, 0, 0, 1), 1);
        due("no hole", x.hole(0, 0, 0, 0), 1);
        due("is 2 ahead of no thing", x.hole(3, 0, 0, 2), -1);
        due("is -1", x.hole(0, 0, 0, -1), -1);
        due("no thing ahead of no cell", x.hole(3, 9, 0, 1), -2);
        due("no cell", x.hole(0, 3, 0, 1), -1);
        x.thing(8, 1, 0);
        for (int c = 0; c < 6; c++) {
            due("hole " + c, x.hole(1, c, 0, 1), 0);
        }
        due("a seventh", x.hole(1, 6, 0, 1), -5);
        due("one that is one already", x.hole(1, 5, 0, 1), 1);
        due("no hole where none was", x.hole(1, 7, 0, 0), 0);
        due("no cell ahead of no room", x.hole(1, 8, 0, 1), -1);
        due("holes", x.fact(1, 4), 6);

        promise = 7;
        x = new SymmetryTax();
        int[] first = {0, 0, 1, 5};
        int[] least = {0, 0, 1, 0};
        int[] most = {64, 99, 9, 999};
        for (int what = 0; what < 4; what++) {
            due("most of " + what, x.terms(what, most[what]), first[what]);
            due("least of " + what, x.terms(what, least[what]), most[what]);
            due("beyond " + what, x.terms(what, most[what] + 1), -1);
            due("below " + what, x.terms(what, least[what] - 1), -1);
            due("term " + what, x.count(10 + what), least[what]);
        }
        due("term 4", x.terms(4, 1), -1);
        due("term -1", x.terms(-1, 1), -1);
    }

    private static void tapes() {
        promise = 8;
        SymmetryTax x = new SymmetryTax();
        due("feed", x.feed(0x00010203, 0x04050607, -1, 0, 0), 20);
        x.thing(8, 8, 0);
        due("row", x.row(), 7 + 8);
        for (int c = 0; c < 7; c++) {
            due("byte " + c, x.of(0, c, 0), c + 1);
        }
        due("a byte of 255 leaves it", x.of(0, 7, 0), 0);
        for (int n = 20; n <= 400; n += 20) {
            due("feed", x.feed(1, 2, 3, 4, 5), n);
        }
        due("too many", x.feed(1, 2, 3, 4, 5), NONE);
        due("bytes", x.count(3), 400);
        x.end(381);
        due("too many by one", x.feed(1, 2, 3, 4, 5), NONE);
        due("it stays", x.count(3), 381);
        due("not refused", x.status(), 0);

        promise = 9;
        due("more than it has", x.end(382), NONE);
        due("below 0", x.end(-1), NONE);
        due("all", x.end(381), 381);
        due("some", x.end(7), 7);
        due("bytes", x.count(3), 7);
        due("none", x.end(0), 0);
        due("bytes", x.count(3), 0);

        promise = 10;
        x = rows(2, 2, 5, 5, 5, 5);
        tape(x, new byte[] {0, 1, 10, 9});
        due("row", x.row(), 2);
        int[] parts = {1, 5, 9, 5};
        for (int c = 0; c < 4; c++) {
            due("cell " + c, x.of(0, c % 2, c / 2), parts[c]);
        }
        due("the tape is empty", x.count(3), 0);
        due("an empty tape", x.row(), -6);
        due("status", x.status(), -6);
        tape(x, new byte[] {1, 1, 1});
        due("no such thing", x.row(), -6);
        due("the tape is empty all the same", x.count(3), 0);
        tape(x, new byte[] {-1, 1, 1});
        due("thing 255", x.row(), -6);
        tape(x, new byte[] {0});
        due("a thing alone", x.row(), 0);
        due("status", x.status(), 0);
        tape(x, new byte[] {0, 1, 1});
        due("painted with what it has counts", x.row(), 2);

        promise = 11;
        due("none", x.flakes(), 0);
        tape(x, new byte[] {0, 1, 1, 1, 1, 1, 77, 1});
        due("row", x.row(), 4);
        due("flakes", x.flakes(), 3);
        x.row();
        due("a refused row leaves them", x.flakes(), 3);
        x.image(0);
        x.back(0);
        due("images don't keep them", x.flakes(), 3);
        tape(x, new byte[] {0, 1, 1, 1, 1});
        x.row();
        due("none again", x.flakes(), 0);
    }

    private static String chain(String head, String link, int n) {
        StringBuilder b = new StringBuilder(head);
        for (int k = 1; k < n; k++) {
            b.append(link);
        }
        return b.toString();
    }

    private static void laws() {
        promise = 12;
        good("tax 5");
        good("tax5");
        good("  tax  1000 ; spares ");
        good("tax 0001000");
        good("spares if not(like=1)and off<2 or day>[1+2]*3");
        good("tax like+off-wide*tall/area+owner*day-parts");
        good(chain("spares", ";spares", 12));
        good(chain("tax 1", "+1", 50));
        good("tax [[[[[[[[1]]]]]]]]");
        good("spares if ((((((((1=1))))))))");
        good("spares if (((([[[[1]]]]=1))))");
        good("spares if " + "not ".repeat(90) + "1=1");
        good("tax 1" + " ".repeat(395));
        SymmetryTax x = new SymmetryTax();
        for (int l = 0; l < 6; l++) {
            due("law", law(x, "tax " + l), l);
        }
        due("the tape is empty", x.count(3), 0);
        due("no fault", x.fault(), NONE);
        due("a seventh", law(x, "tax 7"), -5);
        due("the tape is empty then, too", x.count(3), 0);
        due("no room ahead of reading", law(x, "nonsense"), -5);
        due("laws", x.count(1), 6);
        due("status", x.status(), -5);

        promise = 13;
        due("not read, no fault", x.fault(), NONE);
        bad("", 0);
        bad("    ", 4);
        bad("tax", 3);
        bad("tax ", 4);
        bad("taxx 5", 0);
        bad("Tax 5", 0);
        bad("5", 0);
        bad("tax 1001", 4);
        bad("tax 99999999999999999999", 4);
        bad("tax (5)", 4);
        bad("tax 5 5", 6);
        bad("tax 5;", 6);
        bad("tax 5; ", 7);
        bad("tax 5;;spares", 6);
        bad("tax 5 +", 7);
        bad("tax -5", 4);
        bad("tax 5 if", 8);
        bad("tax 5 if 3", 10);
        bad("tax 5 if 3 and 4=4", 11);
        bad("tax 5 if 3=3=3", 12);
        bad("tax 5 if (3)=3", 11);
        bad("tax 5 if [3=3]", 11);
        bad("tax 5 if (3=3", 13);
        bad("tax 5 if 3=3)", 12);
        bad("tax [5", 6);
        bad("tax 5]", 5);
        bad("tax 5 if 3=3 if 4=4", 13);
        bad("tax 5 if not", 12);
        bad("tax 5 if 1<not 2", 11);
        bad("tax 5\tif 3=3", 5);
        bad("tax 5 if 3=3 xor 4=4", 13);
        bad("spares 3", 7);
        for (String word : "tax spares if or and not likes lik x".split(" ")) {
            bad("tax " + word, 4);
        }
        bad("+".repeat(400), 0);
        bad("tax 1" + " ".repeat(394) + "+", 400);
        bad("tax 1" + ";".repeat(395), 6);
        bad("tax 5 if or", 9);
        bad(chain("spares", ";spares", 13), 84);
        bad(chain("spares", ";spares", 12) + "; ", 85);
        bad(chain("tax 1", "+1", 51), 104);
        bad(chain("tax 1", "+1", 50) + ";tax off", 108);
        bad("tax [[[[[[[[[1]]]]]]]]]", 12);
        bad("spares if (((((((((1=1)))))))))", 18);
        bad("spares if (((([[[[[1]]]]]=1))))", 18);
        x = new SymmetryTax();
        law(x, "tax !");
        due("fault", x.fault(), 4);
        x.image(0);
        law(x, "tax 1");
        due("without", x.fault(), NONE);
        x.back(0);
        due("images don't keep it", x.fault(), NONE);
        for (int l = 0; l < 6; l++) {
            law(x, "tax 1");
        }
        due("the sixth and the refused one", x.fault(), NONE);

        promise = 14;
        x = new SymmetryTax();
        due("none stays", x.force(NONE), NONE);
        due("not refused", x.status(), 0);
        due("no such law", x.force(0), -2);
        due("no such law", x.force(-2), -2);
        law(x, "tax 1");
        law(x, "tax 2");
        due("force", x.force(1), NONE);
        due("force", x.force(0), 1);
        due("no such law", x.force(2), -2);
        due("in force", x.count(9), 0);
        due("none", x.force(NONE), 0);
        due("in force", x.count(9), NONE);
    }

    private static void offs() {
        promise = 15;
        SymmetryTax x = rows(3, 3, 1, 2, 3, 4, 5, 6, 7, 8, 9);
        int[] all = {6, 6, 8, 6, 6, 8};
        for (int like = 0; like < 6; like++) {
            due("off " + like, x.off(0, like), all[like]);
        }
        // 0 1 0 1 in each row: alike upside down alone
        add(x, 4, 2, 0, 0, 1, 0, 1, 0, 1, 0, 1);
        due("off 0", x.off(1, 0), 8);
        due("off 1", x.off(1, 1), 0);
        due("off 2", x.off(1, 2), 8);
        for (int like = 3; like < 6; like++) {
            due("not square", x.off(1, like), NONE);
        }
        due("likeness 6", x.off(0, 6), NONE);
        due("likeness -1", x.off(0, -1), NONE);
        due("no thing", x.off(2, 0), NONE);
        due("thing -1", x.off(-1, 0), NONE);
        // a quarter turn takes 0,0 to 1,0, that to 1,1, that to 0,1, that to 0,0
        add(x, 2, 2, 0, 1, 1, 2, 2);
        due("a quarter turn", x.off(2, 5), 2);
        due("along the diagonal", x.off(2, 3), 2);
        due("along the other one", x.off(2, 4), 2);

        promise = 16;
        due("has none", x.has(0), 0);
        due("has 1", x.has(1), 2);
        x.terms(0, 6);
        due("by slack", x.has(0), 1 + 2 + 8 + 16);
        x.terms(0, 5);
        due("by less slack", x.has(0), 0);
        x.terms(0, 64);
        due("not square", x.has(1), 7);
        due("no thing", x.has(3), NONE);
        due("thing -1", x.has(-1), NONE);
    }

    private static void taxes() {
        promise = 17;
        taxed("tax 7", 7);
        taxed("tax like", 1);
        taxed("tax off", 2);
        taxed("tax wide", 3);
        taxed("tax tall", 2);
        taxed("tax area", 6);
        taxed("tax owner", 4);
        taxed("tax day", 9);
        taxed("tax parts", 2);
        taxed("tax 1+2*3", 7);
        taxed("tax [1+2]*3", 9);
        taxed("tax 20-3-4", 13);
        taxed("tax 100/7/2", 7);
        taxed("tax 10-[0-7]/2", 13);
        taxed("tax 1000", 999);
        taxed("tax 0-5", 0);
        taxed("tax 3;tax 4", 4);
        taxed("tax 3;tax 4 if 1=2", 3);
        taxed("tax 3;spares", 0);
        taxed("spares;tax 3", 0);
        taxed("spares if 1=2", 10);
        taxed("tax 3 if 1>2", 10);
        taxed("tax 3 if 1<2", 3);
        taxed("tax 3 if not 1<2", 10);
        taxed("tax 3 if not not 1<2", 3);
        taxed("tax 3 if 1=2 and 1=2 or 1=1", 3);
        taxed("tax 3 if 1=1 or 1=2 and 1=2", 3);
        taxed("tax 3 if (1=1 or 1=2) and 1=2", 10);
        taxed("tax 3 if not 1=1 and 1=2", 10);
        taxed("tax 3 if not (1=1 and 1=2)", 3);
        // broken ones
        taxed("tax 1/0", 10);
        taxed("tax 3;tax 1/[1-1]", 3);
        taxed("tax 1000*1000*1000/1000/1000", 999);
        taxed("tax 5;tax 1000*1000*1000+1", 5);
        taxed("tax 5;tax 0-1000*1000*1000-1+1000", 5);
        taxed("tax 5;tax 0-1000*1000*1000", 0);
        taxed("tax 3 if 1/0=1 or 1=1", 10);
        taxed("tax 3 if 1=1 or 1/0=1", 3);
        taxed("tax 3 if 1=2 or 1/0=1", 10);
        taxed("tax 3 if not 1/0=1", 10);
        taxed("tax 3 if not(1=2 and 1/0=1)", 3);
        taxed("tax 3 if not(1=1 and 1/0=1)", 10);
        taxed("tax 3 if 1=2 and 1/0=1 or 2=2", 3);
        taxed("spares if 1/0=0", 10);
        SymmetryTax x = new SymmetryTax();
        x.thing(8, 8, 0);
        for (int c = 0; c < 64; c++) {
            // each quarter has its own part
            x.paint(0, c % 8, c / 8, c / 32 * 2 + c % 8 / 4);
        }
        law(x, "tax off");
        law(x, "tax parts*10+like");
        x.force(0);
        due("all are off", x.tax(0, 0), 64);
        due("all are off", x.tax(0, 5), 64);
        x.force(1);
        for (int c = 0; c < 10; c++) {
            x.paint(0, c % 8, c / 8, c);
        }
        for (int like = 0; like < 6; like++) {
            due("all parts", x.tax(0, like), 100 + like);
        }
        x = rows(2, 1, 1, 2);
        due("whether it has it or not", x.tax(0, 0), 10);
        due("not square", x.tax(0, 3), NONE);
        due("likeness 6", x.tax(0, 6), NONE);
        due("likeness -1", x.tax(0, -1), NONE);
        due("no thing", x.tax(1, 0), NONE);

        promise = 18;
        // by likeness 1 it has, by 0 and 2 it has not
        due("owes", x.owes(0), 10);
        add(x, 1, 1, 2);
        due("owes", x.owes(1), 60);
        due("all", x.owes(NONE), 70);
        law(x, "tax like*10+wide");
        x.force(0);
        due("owes by a law", x.owes(0), 12);
        due("owes by a law", x.owes(1), 10 + 20 + 30 + 40 + 50 + 6);
        due("all", x.owes(NONE), 168);
        due("no thing", x.owes(2), NONE);
        due("thing -2", x.owes(-2), NONE);
        x.place(0, 0);
        x.place(1, 1);
        due("twins are not what a thing owes", x.owes(NONE), 168);

        promise = 19;
        add(x, 1, 1, 2);
        due("owner 0", x.owner(0), 12);
        due("owner 2", x.owner(2), 312);
        due("owner without things", x.owner(5), 0);
        due("owner 6", x.owner(6), NONE);
        due("owner -1", x.owner(-1), NONE);

        promise = 20;
        law(x, "tax 1");
        due("by the one in force", x.brings(0), 324);
        due("by another", x.brings(1), 1 + 6 + 6);
        due("by none", x.brings(NONE), 130);
        due("no such law", x.brings(2), NONE);
        due("law -2", x.brings(-2), NONE);
        due("it stays in force", x.count(9), 0);

        promise = 21;
        due("dearest", x.dearest(), 0);
        law(x, "tax 999");
        law(x, "tax 1000");
        due("of alike ones the lowest", x.dearest(), 2);
        x = new SymmetryTax();
        due("no laws", x.dearest(), NONE);
        law(x, "spares");
        law(x, "tax 1");
        due("no things", x.dearest(), 0);
        x.thing(1, 1, 0);
        due("a thing", x.dearest(), 1);
    }

    private static void painted() {
        promise = 22;
        SymmetryTax x = rows(3, 3, 1, 2, 3, 4, 5, 6, 7, 8, 9);
        int[] all = {3, 3, 4, 3, 3, 6};
        for (int like = 0; like < 6; like++) {
            due("quite " + like, x.quite(0, like), all[like]);
        }
        add(x, 2, 2, 0, 3, 3, 0, 9);
        due("most have it", x.quite(1, 5), 2);
        add(x, 2, 1, 0, 4, 4);
        due("none", x.quite(2, 0), 0);
        due("not square", x.quite(2, 3), NONE);
        due("likeness 6", x.quite(0, 6), NONE);
        due("no thing", x.quite(3, 0), NONE);

        promise = 23;
        due("the lowest", x.quiteAt(0, 0, 2, 1), 4);
        due("the middle", x.quiteAt(0, 0, 1, 1), 5);
        due("corners", x.quiteAt(0, 5, 2, 2), 1);
        due("edges", x.quiteAt(0, 5, 0, 1), 2);
        due("the middle", x.quiteAt(0, 5, 1, 1), 5);
        due("most have it", x.quiteAt(1, 5, 0, 1), 3);
        due("by 3", x.quiteAt(0, 3, 0, 2), 3);
        due("by 4", x.quiteAt(0, 4, 2, 2), 1);
        due("it is not painted", x.of(0, 2, 1), 6);
        due("no cell", x.quiteAt(0, 0, 3, 0), NONE);
        due("no cell", x.quiteAt(0, 0, 0, -1), NONE);
        due("not square", x.quiteAt(2, 3, 0, 0), NONE);
        due("likeness -1", x.quiteAt(0, -1, 0, 0), NONE);
        due("no thing", x.quiteAt(3, 0, 0, 0), NONE);

        promise = 24;
        // all 0, 3 by 3: a cell on no axis of 0, 1, 2: corners lie on a diagonal, edges on a middle line
        x = rows(3, 3);
        due("fewest", x.free(0, 1, 0), 2);
        due("first", x.free(0, 1, 1), 0);
        due("second", x.free(0, 1, 2), 1);
        due("no third", x.free(0, 1, 3), NONE);
        // a corner breaks all but the diagonal through it, an edge all but its middle line: 4 * 4 ways; two corners keep
        // a diagonal or a middle line, two edges a middle line or a diagonal, the middle breaks none
        due("ways", x.free(0, 1, 4), 16);
        due("by the part that it has", x.free(0, 0, 0), NONE);
        due("by the part that it has", x.free(0, 0, 1), NONE);
        due("by the part that it has", x.free(0, 0, 4), 0);
        x.paint(0, 0, 0, 2);
        x.paint(0, 1, 0, 2);
        due("it owes nothing", x.free(0, 1, 0), 0);
        due("one way", x.free(0, 1, 4), 1);
        due("no first", x.free(0, 1, 1), NONE);
        // 3 by 1: 1 keeps it whatever is painted
        x = rows(3, 1);
        due("not with 3", x.free(0, 1, 0), NONE);
        due("not with 3", x.free(0, 1, 4), 0);
        law(x, "spares if like=1");
        x.force(0);
        due("by a law", x.free(0, 1, 0), 1);
        due("by a law", x.free(0, 1, 4), 2);
        x.terms(0, 2);
        due("slack is too much", x.free(0, 1, 4), 0);
        law(x, "spares if parts=2 and off=0");
        x.force(1);
        due("spared by what it becomes", x.free(0, 1, 0), 1);
        due("spared by what it becomes", x.free(0, 1, 1), 1);
        due("spared by what it becomes", x.free(0, 1, 4), 1);
        law(x, "spares if off=0 and parts=1");
        x.force(2);
        x.paint(0, 0, 0, 1);
        x.paint(0, 1, 0, 2);
        x.paint(0, 2, 0, 3);
        due("three", x.free(0, 9, 0), 3);
        due("three", x.free(0, 9, 3), 2);
        add(x, 3, 1, 0, 9, 9, 9);
        due("another thing", x.free(1, 9, 0), 0);
        due("the thing again", x.free(0, 9, 0), 3);
        due("another part", x.free(0, 8, 1), 0);
        due("part 10", x.free(0, 10, 0), NONE);
        due("part -1", x.free(0, -1, 4), NONE);
        due("what 5", x.free(0, 1, 5), NONE);
        due("what -1", x.free(0, 1, -1), NONE);
        due("no thing", x.free(2, 1, 4), NONE);
    }

    private static void shapes() {
        promise = 25;
        SymmetryTax x = rows(3, 3, 1, 2, 3, 4, 5, 6, 7, 8, 9);
        int[][] all = {{3, 2, 6}, {7, 8, 4}, {9, 8, 6}, {1, 4, 2}, {9, 6, 8}, {3, 6, 2}, {1, 2, 4}, {7, 4, 8}};
        for (int form = 0; form < 8; form++) {
            due("form " + form, x.form(0, form, 0, 0), all[form][0]);
            due("form " + form, x.form(0, form, 1, 0), all[form][1]);
            due("form " + form, x.form(0, form, 0, 1), all[form][2]);
        }
        add(x, 3, 2, 0, 1, 2, 3, 4, 5, 6);
        due("form 2", x.form(1, 2, 0, 0), 6);
        due("form 6", x.form(1, 6, 2, 1), 6);
        for (int form : new int[] {3, 4, 5, 7, 8, -1}) {
            due("no form " + form, x.form(1, form, 0, 0), NONE);
        }
        due("no form 8", x.form(0, 8, 0, 0), NONE);
        due("no cell", x.form(1, 0, 0, 2), NONE);
        due("no cell", x.form(1, 0, 3, 0), NONE);
        due("no thing", x.form(2, 0, 0, 0), NONE);

        promise = 26;
        due("as it is alone", x.order(0), 1);
        due("as it is alone", x.order(1), 1);
        add(x, 2, 2, 0, 1, 2, 2, 1);
        // 2, 3, 4 and as it is
        due("by 2, 3, 4", x.order(2), 4);
        add(x, 1, 1, 0);
        due("all", x.order(3), 8);
        add(x, 2, 1, 0);
        due("all of one that is not square", x.order(4), 4);
        due("no thing", x.order(5), NONE);
        due("thing -1", x.order(-1), NONE);

        promise = 27;
        x = rows(3, 3, 1, 2, 3, 4, 5, 6, 7, 8, 9);
        add(x, 3, 3, 4, 7, 4, 1, 8, 5, 2, 9, 6, 3);
        due("a quarter back", x.forms(0, 1), 128);
        due("a quarter turn", x.forms(1, 0), 32);
        due("itself", x.forms(0, 0), 64);
        add(x, 2, 2, 0, 1, 2, 2, 1);
        due("other sides", x.forms(0, 2), 0);
        due("more than one", x.forms(2, 2), 4 + 8 + 16 + 64);
        add(x, 3, 1, 0, 1, 2, 3);
        add(x, 1, 3, 0, 1, 2, 3);
        due("not turned", x.forms(3, 4), 0);
        due("not square", x.forms(3, 3), 2 + 64);
        due("no other", x.forms(0, 5), NONE);
        due("no thing", x.forms(5, 0), NONE);
    }

    private static void filled() {
        promise = 28;
        SymmetryTax x = rows(2, 1, 0, 3);
        due("no holes: as it is", x.fills(0, 2, 10), 1);
        due("no holes: another sum", x.fills(0, 2, 30), 0);
        x.hole(0, 0, 0, 1);
        // 10 by likeness 1 always; 30 if both are alike
        due("part 3 is not among 2", x.fills(0, 2, 30), 0);
        due("part 3 is not among 3", x.fills(0, 3, 30), 0);
        due("part 3 is among 4", x.fills(0, 4, 30), 1);
        due("the others", x.fills(0, 4, 10), 3);
        x.hole(0, 1, 0, 1);
        due("both", x.fills(0, 4, 30), 4);
        due("both", x.fills(0, 4, 10), 12);
        due("both", x.fills(0, 2, 10), 2);
        due("a sum of 0", x.fills(0, 2, 0), 0);
        due("a sum of 9999", x.fills(0, 2, 9999), 0);
        x.thing(1, 1, 0);
        due("another thing", x.fills(1, 2, 10), 0);
        due("the thing again", x.fills(0, 2, 10), 2);
        due("1 part", x.fills(0, 1, 10), NONE);
        due("5 parts", x.fills(0, 5, 10), NONE);
        due("sum -1", x.fills(0, 2, -1), NONE);
        due("sum 10000", x.fills(0, 2, 10000), NONE);
        due("no thing", x.fills(2, 2, 10), NONE);
        due("it is not filled", x.of(0, 1, 0), 3);
        law(x, "tax 0;tax parts if like=1");
        x.force(0);
        due("by a law", x.fills(0, 3, 1), 3);
        due("by a law", x.fills(0, 3, 2), 6);
        x.thing(8, 8, 0);
        for (int c = 0; c < 6; c++) {
            x.hole(2, c, 0, 1);
        }
        x.force(NONE);
        x.terms(0, 64);
        due("all", x.fills(2, 4, 60), 4096);

        promise = 29;
        x = rows(3, 1, 0, 5, 2);
        x.hole(0, 0, 0, 1);
        x.hole(0, 1, 0, 1);
        due("alike to what stands over there", x.sure(0, 3, 30, 0, 0), 2);
        due("whatever it is", x.sure(0, 3, 30, 1, 0), NONE);
        due("no hole", x.sure(0, 3, 30, 2, 0), NONE);
        due("no filling", x.sure(0, 2, 30, 0, 0), NONE);
        due("0 or 1", x.sure(0, 3, 10, 0, 0), NONE);
        due("no cell", x.sure(0, 3, 30, 3, 0), NONE);
        due("no cell", x.sure(0, 3, 30, 0, -1), NONE);
        due("5 parts", x.sure(0, 5, 30, 0, 0), NONE);
        due("1 part", x.sure(0, 1, 10, 0, 0), NONE);
        due("sum -1", x.sure(0, 3, -1, 0, 0), NONE);
        due("sum 10000", x.sure(0, 3, 10000, 0, 0), NONE);
        due("no thing", x.sure(1, 3, 30, 0, 0), NONE);
        x.paint(0, 2, 0, 1);
        due("another one stands there", x.sure(0, 3, 30, 0, 0), 1);
        x.hole(0, 0, 0, 0);
        due("no hole any more", x.sure(0, 3, 30, 0, 0), NONE);
    }

    private static void streets() {
        promise = 30;
        SymmetryTax x = new SymmetryTax();
        add(x, 2, 1, 0, 1, 2);
        add(x, 2, 1, 0, 2, 1);
        add(x, 2, 1, 0, 1, 2);
        due("in a place", x.place(0, 0), NONE);
        due("not refused", x.status(), 0);
        due("in another", x.place(0, 9), 0);
        due("where it stands", x.place(0, 9), 9);
        due("where another one stands", x.place(1, 9), -3);
        due("status", x.status(), -3);
        due("place 10", x.place(0, 10), -1);
        due("place -2", x.place(0, -2), -1);
        due("place 10 ahead of no thing", x.place(3, 10), -1);
        due("no thing ahead of another one", x.place(3, 9), -2);
        due("in none", x.place(0, NONE), 9);
        due("in none again", x.place(0, NONE), NONE);
        due("where it stood", x.place(1, 9), NONE);
        due("in the street", x.count(2), 1);

        promise = 31;
        x.place(0, 0);
        x.place(1, 1);
        x.place(2, 2);
        due("pairs", x.street(1), 2);
        due("they owe", x.street(0), 10);
        x.terms(3, 999);
        due("they owe", x.street(0), 1998);
        x.place(1, 3);
        due("a pair", x.street(1), 1);
        x.terms(2, 3);
        due("nearer by near", x.street(1), 2);
        x.terms(2, 2);
        due("3 apart is not 2", x.street(1), 1);
        x.paint(2, 0, 0, 7);
        due("none", x.street(1), 0);
        due("what 2", x.street(2), NONE);
        due("what -1", x.street(-1), NONE);
        x = rows(2, 1, 4, 4);
        add(x, 2, 1, 0, 4, 4);
        x.place(0, 4);
        x.place(1, 5);
        due("alike ones are mirrored ones", x.street(1), 1);
        add(x, 1, 2, 0, 4, 4);
        x.place(2, 6);
        due("other sides", x.street(1), 1);

        promise = 32;
        x = new SymmetryTax();
        due("an empty street", x.best(0), 0);
        due("an empty street: one row", x.best(1), 1);
        add(x, 2, 1, 0, 1, 2);
        add(x, 2, 1, 0, 2, 1);
        add(x, 2, 1, 0, 1, 2);
        x.place(0, 0);
        x.place(1, 1);
        x.place(2, 2);
        // 0 and 2 are no twins: 1 goes to an end
        due("least", x.best(0), 5);
        due("rows", x.best(1), 4);
        due("as it stands", x.street(0), 10);
        x.terms(3, 0);
        due("nothing", x.best(0), 0);
        due("all rows", x.best(1), 6);
        due("what 2", x.best(2), NONE);
        due("what -1", x.best(-1), NONE);
        x.terms(3, 5);

        promise = 33;
        due("first row", x.bestAt(0), 0);
        due("first row", x.bestAt(1), 2);
        due("first row", x.bestAt(2), 1);
        due("nobody there", x.bestAt(3), NONE);
        due("place 10", x.bestAt(10), NONE);
        due("place -1", x.bestAt(-1), NONE);
        due("they are not put", x.fact(2, 5), 2);
        x.place(1, 5);
        due("best as it stands", x.bestAt(2), 1);
        due("best as it stands", x.bestAt(5), 2);
        due("nobody there", x.bestAt(1), NONE);
        x.place(0, NONE);
        due("one less", x.bestAt(0), NONE);
        due("one less", x.bestAt(2), 1);
    }

    private static void inspected() {
        promise = 34;
        // squares of 2 by 2: 1 2 0 0 | 2 0 0 1 and 0 5 0 0 | 0 0 0 0
        SymmetryTax x = rows(4, 4, 1, 2, 2, 0, 0, 0, 0, 1, 0, 5, 0, 0, 0, 0, 0, 0);
        due("mirrored", x.ruler(0, 0, 2), 2);
        due("upside down", x.ruler(0, 1, 2), 4);
        due("by the diagonal", x.ruler(0, 3, 2), 2);
        due("by the other one", x.ruler(0, 4, 2), 2);
        due("a quarter turn", x.ruler(0, 5, 2), 3);
        due("by 1 as off", x.ruler(0, 0, 1), x.off(0, 0));
        due("by 4 all is one square", x.ruler(0, 5, 4), 0);
        due("by 8 all is one square", x.ruler(0, 0, 8), 0);
        // 3 and 1 wide: never as many
        due("less at the far side", x.ruler(0, 0, 3), 4);
        due("the middle ones", x.ruler(0, 3, 3), 2);
        due("r 0", x.ruler(0, 0, 0), NONE);
        due("r 9", x.ruler(0, 0, 9), NONE);
        due("likeness 6", x.ruler(0, 6, 1), NONE);
        due("likeness -1", x.ruler(0, -1, 1), NONE);
        due("no thing", x.ruler(1, 0, 1), NONE);
        x.thing(3, 2, 0);
        due("uneven", x.ruler(1, 0, 2), 2);
        due("even", x.ruler(1, 1, 2), 0);
        due("one square of one that is not square", x.ruler(1, 5, 8), NONE);

        promise = 35;
        // s: 5, 17860 (cell 0 of 2), 711868 (part 8)
        x = rows(2, 1, 8, 8);
        due("it is alike still", x.daub(5, 1), 30);
        // s: 0, 12345 (cell 1), 628841 (part 1), 621889 (cell 1), 953857 (part 7)
        x = rows(2, 1);
        due("two days", x.daub(0, 2), 20);
        due("on paper", x.of(0, 1, 0), 0);
        x.terms(1, 98);
        law(x, "tax day");
        x.force(0);
        due("days from day on", x.daub(0, 3), 98 + 99 + 100);
        due("seed -1", x.daub(-1, 1), -1);
        due("status", x.status(), -1);
        due("seed 1000001", x.daub(1_000_001, 1), -1);
        due("0 days", x.daub(0, 0), -1);
        due("41 days", x.daub(0, 41), -1);

        promise = 36;
        due("day 0", x.daubed(0), 98);
        due("day 2", x.daubed(2), 100);
        due("day 3", x.daubed(3), NONE);
        due("day -1", x.daubed(-1), NONE);
        x.image(0);
        x.daub(0, 1);
        due("another one", x.daubed(1), NONE);
        x.back(0);
        due("images don't keep it", x.daubed(1), NONE);
        due("no refusal", x.status(), 0);
        x = new SymmetryTax();
        due("none", x.daubed(0), NONE);
        due("no things", x.daub(1_000_000, 40), 0);
        due("no things", x.daubed(39), 0);
        due("day 40", x.daubed(40), NONE);
    }

    private static void images() {
        promise = 37;
        SymmetryTax x = rows(2, 1, 3, 4);
        due("image 2", x.image(2), -1);
        due("image -1", x.image(-1), -1);
        due("status", x.status(), -1);
        due("image", x.image(0), 0);
        due("status", x.status(), 0);

        promise = 38;
        due("not kept", x.back(1), -2);
        due("image 2", x.back(2), -1);
        due("image -1", x.back(-1), -1);
        x.hole(0, 1, 0, 1);
        x.place(0, 6);
        law(x, "tax 1");
        x.force(0);
        x.terms(0, 3);
        x.image(1);
        x.paint(0, 0, 0, 9);
        x.thing(5, 5, 5);
        x.feed(1, 2, 3, 4, 5);
        due("back", x.back(0), 0);
        due("things", x.count(0), 1);
        due("part", x.of(0, 0, 0), 3);
        due("hole", x.fact(0, 4), 0);
        due("place", x.fact(0, 5), NONE);
        due("laws", x.count(1), 0);
        due("in force", x.count(9), NONE);
        due("slack", x.count(10), 0);
        due("the tape is not kept", x.count(3), 20);
        x.end(0);
        due("another law", law(x, "tax 2"), 0);
        x.force(0);
        due("another law", x.tax(0, 0), 2);
        due("images stay", x.back(1), 0);
        due("the law of then", x.tax(0, 0), 1);
        due("hole", x.fact(0, 4), 1);
        due("place", x.fact(0, 5), 6);
        due("slack", x.count(10), 3);
        x.paint(0, 0, 0, 8);
        due("images stay", x.back(1), 0);
        due("part", x.of(0, 0, 0), 3);
        due("a thing anew", x.thing(1, 1, 1), 1);
        due("a thing anew has no part of an old one", x.fact(1, 3), 1);
        due("refused stay counted", x.count(4), 4);
        x = new SymmetryTax();
        x.image(0);
        add(x, 2, 1, 3, 1, 2);
        x.image(1);
        x.back(0);
        due("no thing", x.fact(0, 0), NONE);
        add(x, 5, 4, 1, 3, 4, 5, 6, 7, 8, 9);
        due("off", x.off(0, 0), 8);
        x.back(1);
        due("wide", x.fact(0, 0), 2);
        due("tall", x.fact(0, 1), 1);
        due("owner", x.fact(0, 2), 3);
        due("parts", x.fact(0, 3), 2);
        due("off", x.off(0, 0), 2);
        due("owner", x.owner(3), 10);

        promise = 39;
        x = new SymmetryTax();
        x.thing(0, 0, 0);
        x.paint(0, 0, 0, 0);
        x.force(1);
        x.thing(1, 1, 1);
        x.thing(1, 1, 1);
        x.place(0, 3);
        x.place(1, 3);
        x.place(1, 3);
        x.place(1, 3);
        x.hole(0, 0, 0, 2);
        x.row();
        law(x, "?");
        law(x, "tax 1");
        x.terms(0, 11);
        x.terms(1, 12);
        x.terms(2, 3);
        x.terms(3, 14);
        x.image(0);
        for (int t = 0; t < 5; t++) {
            x.thing(1, 1, 0);
        }
        x.back(0);
        x.feed(0, 0, 0, 0, 0);
        // what is asked for and is not there is not refused
        x.off(9, 9);
        x.end(99);
        int[] counts = {2, 1, 1, 20, 2, 2, 3, 1, 2, NONE, 11, 12, 3, 14};
        for (int what = 0; what < counts.length; what++) {
            due("count " + what, x.count(what), counts[what]);
        }
        due("count 14", x.count(14), NONE);
        due("count -1", x.count(-1), NONE);

        promise = 40;
        due("back", x.status(), 0);
        x.thing(9, 9, 9);
        due("thing", x.status(), -1);
        x.of(0, 0, 0);
        x.feed(0, 0, 0, 0, 0);
        x.end(900);
        x.end(0);
        x.owes(9);
        due("others don't count", x.status(), -1);
        x.paint(9, 0, 0, 0);
        due("paint", x.status(), -2);
        x.terms(9, 9);
        due("terms", x.status(), -1);
        x.force(9);
        due("force", x.status(), -2);
        x.row();
        due("row", x.status(), -6);
        x.place(1, 3);
        due("place", x.status(), -3);
        x.law();
        due("law", x.status(), -6);
        x.hole(9, 9, 9, 1);
        due("hole", x.status(), -2);
        x.daub(0, 0);
        due("daub", x.status(), -1);
        x.back(1);
        due("back", x.status(), -2);
        x.image(7);
        due("image", x.status(), -1);
        x.place(1, NONE);
        due("NONE is not always a refusal", x.status(), 0);
    }

    public static void main(String[] args) {
        things();
        tapes();
        laws();
        offs();
        taxes();
        painted();
        shapes();
        filled();
        streets();
        inspected();
        images();
        System.out.println(asked + " answers, " + wrong + " not as due");
        if (wrong != 0) {
            System.exit(1);
        }
    }
}
