import java.util.Map;
import java.util.Random;

/**
 * For each sentence of a promise that names a boundary case a test of its own, named after the promise: the last value
 * that is taken and the first that is not, the empty and the full, what is REFUSED and that nothing else changed.
 */
public final class PromiseBoundaryTest {
    private static final int NONE = SymmetryTax.NONE;
    private static final Bounds.Act EMPTY = x -> { };
    private static final Bounds.Act RICH = Bounds::rich;
    /** Six things, the last one as large as can be. */
    private static final Bounds.Act SIX_THINGS = RICH.then(x -> {
        x.thing(1, 1, 2);
        x.thing(8, 1, 3);
        x.thing(8, 8, 4);
    });
    private static final Bounds.Act SIX_LAWS = RICH.then(x -> {
        x.end(0);
        for (int l = 2; l < 6; l++) {
            Bounds.law(x, "tax " + l);
        }
        Bounds.tape(x, 1, 7, 8, 7);
    });

    private PromiseBoundaryTest() {
    }

    private static void due(String call, int got, int want) {
        Bounds.due(call, got, want);
    }

    private static void test(String named, Runnable body) {
        Bounds.test(named, body);
    }

    private static SymmetryTax rich() {
        return Bounds.made(RICH);
    }

    // ---- promise 1 ----

    private static void newObject() {
        test("promise 1: a new object has no THINGS", () -> {
            SymmetryTax x = new SymmetryTax();
            due("count(0)", x.count(0), 0);
            due("fact(0, 0)", x.fact(0, 0), NONE);
            due("owes(NONE)", x.owes(NONE), 0);
            due("paint(0, 0, 0, 0)", x.paint(0, 0, 0, 0), -2);
        });
        test("promise 1: objects have their own THINGS", () -> {
            SymmetryTax x = rich();
            due("count(0) of another", new SymmetryTax().count(0), 0);
            due("count(0)", x.count(0), 3);
        });
        test("promise 1, NONE is -1", () -> due("NONE", SymmetryTax.NONE, -1));
        test("promise 1, 512 calls: the last one answers as the first", () -> {
            SymmetryTax x = new SymmetryTax();
            due("thing", x.thing(8, 8, 0), 0);
            for (int n = 0; n < 510; n++) {
                due("paint", x.paint(0, n % 8, n / 8 % 8, n % 10), n < 64 ? 0 : (n - 64) % 10);
            }
            due("the 512th", x.of(0, 509 % 8, 509 / 8 % 8), 9);
        });
    }

    // ---- promise 2 ----

    private static void thing() {
        test("promise 2, WIDE: 1 and 8 are taken, 0 and 9 are REFUSED by -1", () -> {
            SymmetryTax x = new SymmetryTax();
            due("thing(1, 2, 0)", x.thing(1, 2, 0), 0);
            due("thing(8, 2, 0)", x.thing(8, 2, 0), 1);
            due("WIDE", x.fact(0, 0), 1);
            due("WIDE", x.fact(1, 0), 8);
            Bounds.refusedBeyond("thing: WIDE", RICH, 1, 8, -1, (y, v) -> y.thing(v, 1, 0));
        });
        test("promise 2, TALL: 1 and 8 are taken, 0 and 9 are REFUSED by -1", () -> {
            SymmetryTax x = new SymmetryTax();
            due("thing(2, 1, 0)", x.thing(2, 1, 0), 0);
            due("thing(2, 8, 0)", x.thing(2, 8, 0), 1);
            due("TALL", x.fact(0, 1), 1);
            due("TALL", x.fact(1, 1), 8);
            Bounds.refusedBeyond("thing: TALL", RICH, 1, 8, -1, (y, v) -> y.thing(1, v, 0));
        });
        test("promise 2, OWNER: 0 and 5 are taken, -1 and 6 are REFUSED by -1", () -> {
            SymmetryTax x = new SymmetryTax();
            due("thing(2, 1, 0)", x.thing(2, 1, 0), 0);
            due("thing(2, 1, 5)", x.thing(2, 1, 5), 1);
            due("OWNER", x.fact(0, 2), 0);
            due("OWNER", x.fact(1, 2), 5);
            Bounds.refusedBeyond("thing: OWNER", RICH, 0, 5, -1, (y, v) -> y.thing(1, 1, v));
        });
        test("promise 2: its number, 0 to 5, and a REFUSED one takes none", () -> {
            SymmetryTax x = new SymmetryTax();
            for (int t = 0; t < 6; t++) {
                due("thing(0, 1, 0)", x.thing(0, 1, 0), -1);
                due("thing(1, 1, 0)", x.thing(1, 1, 0), t);
                due("status()", x.status(), 0);
            }
        });
        test("promise 2, full: a sixth is taken, a seventh is REFUSED by -5", () -> {
            due("the sixth", Bounds.made(SIX_THINGS).count(0), 6);
            Bounds.refused("a seventh", SIX_THINGS, x -> x.thing(1, 1, 0), -5);
            Bounds.refused("a seventh", SIX_THINGS, x -> x.thing(8, 8, 5), -5);
        });
        test("promise 2: -1 is ahead of -5", () -> {
            Bounds.refused("thing(9, 1, 0)", SIX_THINGS, x -> x.thing(9, 1, 0), -1);
            Bounds.refused("thing(1, 0, 0)", SIX_THINGS, x -> x.thing(1, 0, 0), -1);
            Bounds.refused("thing(1, 1, 6)", SIX_THINGS, x -> x.thing(1, 1, 6), -1);
        });
        test("promise 2: a THING has PARTS 0, no HOLES, no PLACE, though another one had its number", () -> {
            SymmetryTax x = new SymmetryTax();
            x.image(0);
            Bounds.add(x, 2, 1, 0, 5, 6);
            x.hole(0, 0, 0, 1);
            x.place(0, 3);
            x.back(0);
            due("thing", x.thing(2, 1, 0), 0);
            due("of", x.of(0, 0, 0), 0);
            due("of", x.of(0, 1, 0), 0);
            due("HOLES", x.fact(0, 4), 0);
            due("PLACE", x.fact(0, 5), NONE);
            due("nobody stands there", x.thing(1, 1, 0), 1);
            due("nobody stands there", x.place(1, 3), NONE);
            due("nobody stands there", x.status(), 0);
        });
    }

    // ---- promise 3 ----

    private static void fact() {
        test("promise 3, what: 0 to 5 tell WIDE, TALL, OWNER, unlike PARTS, HOLES, PLACE", () -> {
            SymmetryTax x = rich();
            int[][] all = {{3, 2, 1, 5, 1, 4}, {2, 2, 5, 2, 2, 0}, {3, 2, 0, 5, 0, 6}};
            for (int t = 0; t < 3; t++) {
                for (int what = 0; what < 6; what++) {
                    due("fact(" + t + ", " + what + ")", x.fact(t, what), all[t][what]);
                }
            }
        });
        test("promise 3, what: -1 and 6 are NONE", () ->
            Bounds.noneBeyond("fact: what", RICH, 0, 5, (x, v) -> x.fact(0, v)));
        test("promise 3, THING: the last is told, the next and -1 are NONE", () -> {
            due("the last", rich().fact(2, 0), 3);
            Bounds.noneBeyond("fact: THING", RICH, 0, 2, (x, v) -> x.fact(v, 0));
            Bounds.noneBeyond("fact: THING of none", EMPTY, 0, -1, (x, v) -> x.fact(v, 0));
            due("the sixth", Bounds.made(SIX_THINGS).fact(5, 0), 8);
            Bounds.noneBeyond("fact: THING of six", SIX_THINGS, 0, 5, (x, v) -> x.fact(v, 0));
        });
        test("promise 3, unlike PARTS: 1 at first, 10 at most", () -> {
            SymmetryTax x = Bounds.of(4, 3);
            due("one", x.fact(0, 3), 1);
            for (int part = 1; part < 10; part++) {
                x.paint(0, part % 4, part / 4, part);
                due("parts", x.fact(0, 3), part + 1);
            }
            due("of 1 by 1", Bounds.of(1, 1, 7).fact(0, 3), 1);
        });
        test("promise 3, unlike PARTS: a last CELL of 8 by 8 is seen", () -> {
            SymmetryTax x = Bounds.of(8, 8);
            x.paint(0, 7, 7, 9);
            due("parts", x.fact(0, 3), 2);
            x.paint(0, 7, 7, 0);
            x.paint(0, 0, 0, 9);
            due("parts", x.fact(0, 3), 2);
        });
        test("promise 3, HOLES: none at first, 6 at most", () -> {
            SymmetryTax x = Bounds.of(8, 8);
            due("none", x.fact(0, 4), 0);
            for (int c = 0; c < 6; c++) {
                x.hole(0, 7, 7 - c, 1);
                due("holes", x.fact(0, 4), c + 1);
            }
        });
        test("promise 3, PLACE: NONE, if it stands in none; 0 and 9 are told", () -> {
            SymmetryTax x = Bounds.of(1, 1);
            due("none", x.fact(0, 5), NONE);
            x.place(0, 0);
            due("0", x.fact(0, 5), 0);
            x.place(0, 9);
            due("9", x.fact(0, 5), 9);
            x.place(0, NONE);
            due("none", x.fact(0, 5), NONE);
        });
    }

    // ---- promise 4 ----

    private static void paint() {
        test("promise 4: it answers what the CELL had", () -> {
            SymmetryTax x = Bounds.of(1, 1);
            due("0 at first", x.paint(0, 0, 0, 9), 0);
            due("the PART that it had", x.paint(0, 0, 0, 9), 9);
            due("9", x.paint(0, 0, 0, 0), 9);
            due("0", x.paint(0, 0, 0, 1), 0);
            due("status()", x.status(), 0);
        });
        test("promise 4, PART: 0 and 9 are taken, -1 and 10 are REFUSED by -1", () -> {
            SymmetryTax x = rich();
            due("9", x.paint(0, 0, 0, 9), 1);
            due("0", x.paint(0, 0, 0, 0), 9);
            due("of", x.of(0, 0, 0), 0);
            Bounds.refusedBeyond("paint: PART", RICH, 0, 9, -1, (y, v) -> y.paint(0, 0, 0, v));
        });
        test("promise 4, THING: the last is painted, the next and -1 are REFUSED by -2", () -> {
            due("the last", rich().paint(2, 0, 0, 5), 3);
            Bounds.refusedBeyond("paint: THING", RICH, 0, 2, -2, (x, v) -> x.paint(v, 0, 0, 5));
            Bounds.refused("paint, no THINGS", EMPTY, x -> x.paint(0, 0, 0, 0), -2);
            Bounds.refused("paint, six THINGS", SIX_THINGS, x -> x.paint(6, 0, 0, 0), -2);
        });
        test("promise 4, x: the last is painted, WIDE and -1 are REFUSED by -1", () -> {
            due("the last", rich().paint(0, 2, 1, 5), 9);
            Bounds.refusedBeyond("paint: x", RICH, 0, 2, -1, (x, v) -> x.paint(0, v, 0, 5));
            Bounds.refusedBeyond("paint: x of 8", SIX_THINGS, 0, 7, -1, (x, v) -> x.paint(5, v, 0, 5));
        });
        test("promise 4, y: the last is painted, TALL and -1 are REFUSED by -1", () -> {
            due("the last", rich().paint(0, 0, 1, 5), 0);
            Bounds.refusedBeyond("paint: y", RICH, 0, 1, -1, (x, v) -> x.paint(0, 0, v, 5));
            Bounds.refusedBeyond("paint: y of 8", SIX_THINGS, 0, 7, -1, (x, v) -> x.paint(5, 0, v, 5));
        });
        test("promise 4: -1 of the PART is ahead of -2", () -> {
            Bounds.refused("paint(3, 0, 0, 10)", RICH, x -> x.paint(3, 0, 0, 10), -1);
            Bounds.refused("paint(3, 0, 0, -1)", RICH, x -> x.paint(3, 0, 0, -1), -1);
        });
        test("promise 4: -1 of the CELL is behind -2", () -> {
            Bounds.refused("paint(3, 8, 8, 9)", RICH, x -> x.paint(3, 8, 8, 9), -2);
            Bounds.refused("paint(-1, -1, -1, 0)", RICH, x -> x.paint(-1, -1, -1, 0), -2);
        });
        test("promise 4: one CELL alone gets it", () -> {
            SymmetryTax x = rich();
            x.paint(0, 1, 1, 7);
            int[] parts = {1, 2, 3, 0, 7, 9};
            for (int c = 0; c < 6; c++) {
                due("cell " + c, x.of(0, c % 3, c / 3), parts[c]);
            }
            due("another THING", x.of(1, 1, 1), 1);
            due("another THING", x.of(2, 1, 1), 0);
        });
        test("promise 4: a HOLE is painted and stays a HOLE", () -> {
            SymmetryTax x = rich();
            due("paint", x.paint(0, 1, 0, 4), 2);
            due("of", x.of(0, 1, 0), 4);
            due("HOLES", x.fact(0, 4), 1);
        });
    }

    // ---- promise 5 ----

    private static void of() {
        test("promise 5: each CELL of each size has its PART, 0 at first", () -> {
            for (int size = 0; size < 64; size++) {
                int wide = size % 8 + 1;
                int tall = size / 8 + 1;
                SymmetryTax x = Bounds.of(wide, tall);
                due("the last at first", x.of(0, wide - 1, tall - 1), 0);
                for (int c = 0; c < wide * tall; c++) {
                    x.paint(0, c % wide, c / wide, c % 7);
                }
                for (int c = 0; c < wide * tall; c++) {
                    due("cell " + c + " of " + wide + " by " + tall, x.of(0, c % wide, c / wide), c % 7);
                }
            }
        });
        test("promise 5, x: WIDE and -1 are NONE", () -> {
            due("the last", rich().of(0, 2, 0), 3);
            Bounds.noneBeyond("of: x", RICH, 0, 2, (x, v) -> x.of(0, v, 0));
        });
        test("promise 5, y: TALL and -1 are NONE", () -> {
            due("the last", rich().of(0, 2, 1), 9);
            Bounds.noneBeyond("of: y", RICH, 0, 1, (x, v) -> x.of(0, 0, v));
        });
        test("promise 5, THING: the last is told, the next and -1 are NONE", () -> {
            due("the last", rich().of(2, 0, 0), 3);
            Bounds.noneBeyond("of: THING", RICH, 0, 2, (x, v) -> x.of(v, 0, 0));
            Bounds.unchanged("of, no THINGS", EMPTY, x -> x.of(0, 0, 0), NONE);
        });
        test("promise 5: PART of a HOLE is told as it is painted", () -> due("of", rich().of(0, 1, 0), 2));
    }

    // ---- promise 6 ----

    /** Six holes in the last thing. */
    private static void sixHoles(SymmetryTax x) {
        Bounds.rich(x);
        x.thing(8, 1, 0);
        for (int c = 0; c < 6; c++) {
            x.hole(3, c, 0, 1);
        }
    }

    private static void hole() {
        test("promise 6: it answers what the CELL was", () -> {
            SymmetryTax x = Bounds.of(2, 1);
            due("none at first", x.hole(0, 1, 0, 0), 0);
            due("not yet", x.hole(0, 1, 0, 1), 0);
            due("one already", x.hole(0, 1, 0, 1), 1);
            due("one no more", x.hole(0, 1, 0, 0), 1);
            due("none", x.hole(0, 1, 0, 0), 0);
            due("status()", x.status(), 0);
        });
        test("promise 6, is: 0 and 1 are taken, -1 and 2 are REFUSED by -1", () -> {
            SymmetryTax x = rich();
            due("0", x.hole(0, 1, 0, 0), 1);
            due("HOLES", x.fact(0, 4), 0);
            due("1", x.hole(0, 1, 0, 1), 0);
            due("HOLES", x.fact(0, 4), 1);
            Bounds.refusedBeyond("hole: is", RICH, 0, 1, -1, (y, v) -> y.hole(0, 0, 0, v));
        });
        test("promise 6, THING: the last has it, the next and -1 are REFUSED by -2", () -> {
            due("the last", rich().hole(2, 0, 0, 1), 0);
            Bounds.refusedBeyond("hole: THING", RICH, 0, 2, -2, (x, v) -> x.hole(v, 0, 0, 1));
            Bounds.refused("hole, no THINGS", EMPTY, x -> x.hole(0, 0, 0, 0), -2);
        });
        test("promise 6, x: the last has it, WIDE and -1 are REFUSED by -1", () -> {
            due("the last", rich().hole(0, 2, 1, 1), 0);
            Bounds.refusedBeyond("hole: x", RICH, 0, 2, -1, (x, v) -> x.hole(0, v, 0, 1));
        });
        test("promise 6, y: the last has it, TALL and -1 are REFUSED by -1", () -> {
            due("the last", rich().hole(0, 0, 1, 1), 0);
            Bounds.refusedBeyond("hole: y", RICH, 0, 1, -1, (x, v) -> x.hole(0, 0, v, 1));
        });
        test("promise 6: -1 of what it is is ahead of -2", () -> {
            Bounds.refused("hole(3, 0, 0, 2)", RICH, x -> x.hole(3, 0, 0, 2), -1);
            Bounds.refused("hole(3, 0, 0, -1)", RICH, x -> x.hole(3, 0, 0, -1), -1);
        });
        test("promise 6: -1 of the CELL is behind -2", () -> {
            Bounds.refused("hole(3, 8, 8, 1)", RICH, x -> x.hole(3, 8, 8, 1), -2);
            Bounds.refused("hole(-1, -1, -1, 0)", RICH, x -> x.hole(-1, -1, -1, 0), -2);
        });
        test("promise 6, full: a sixth is taken, a seventh is REFUSED by -5", () -> {
            due("six", Bounds.made(PromiseBoundaryTest::sixHoles).fact(3, 4), 6);
            Bounds.refused("a seventh", PromiseBoundaryTest::sixHoles, x -> x.hole(3, 6, 0, 1), -5);
            Bounds.refused("a seventh in the last CELL", PromiseBoundaryTest::sixHoles, x -> x.hole(3, 7, 0, 1), -5);
        });
        test("promise 6, full: what is a HOLE already, or none and stays so, is no seventh", () -> {
            Bounds.unchanged("a HOLE again", PromiseBoundaryTest::sixHoles, x -> x.hole(3, 5, 0, 1), 1);
            Bounds.unchanged("none again", PromiseBoundaryTest::sixHoles, x -> x.hole(3, 6, 0, 0), 0);
        });
        test("promise 6, full: one less makes room for another", () -> {
            SymmetryTax x = Bounds.made(PromiseBoundaryTest::sixHoles);
            due("one less", x.hole(3, 2, 0, 0), 1);
            due("another", x.hole(3, 7, 0, 1), 0);
            due("a seventh", x.hole(3, 2, 0, 1), -5);
            due("HOLES", x.fact(3, 4), 6);
        });
        test("promise 6, full: each THING has its own six", () -> {
            SymmetryTax x = Bounds.made(PromiseBoundaryTest::sixHoles);
            due("another THING", x.hole(0, 0, 0, 1), 0);
            due("HOLES", x.fact(0, 4), 2);
        });
        test("promise 6, full: -1 of the CELL is ahead of -5", () ->
            Bounds.refused("hole(3, 8, 0, 1)", PromiseBoundaryTest::sixHoles, x -> x.hole(3, 8, 0, 1), -1));
        test("promise 6: the PART stays", () -> {
            SymmetryTax x = rich();
            x.hole(0, 2, 0, 1);
            due("of", x.of(0, 2, 0), 3);
            x.hole(0, 2, 0, 0);
            due("of", x.of(0, 2, 0), 3);
        });
    }

    // ---- promise 7 ----

    private static void term(int what, String called, int first, int least, int most) {
        test("promise 7, " + called + ": " + first + " at first", () ->
            due("terms", new SymmetryTax().terms(what, least), first));
        test("promise 7, " + called + ": " + least + " and " + most + " are taken, the next ones are REFUSED by -1", () -> {
            SymmetryTax x = rich();
            int was = x.count(10 + what);
            due("the least", x.terms(what, least), was);
            due("it is so", x.count(10 + what), least);
            due("the most", x.terms(what, most), least);
            due("it is so", x.count(10 + what), most);
            due("the same", x.terms(what, most), most);
            due("status()", x.status(), 0);
            Bounds.refusedBeyond("terms(" + what + ")", RICH, least, most, -1, (y, v) -> y.terms(what, v));
        });
    }

    private static void terms() {
        term(0, "SLACK", 0, 0, 64);
        term(1, "DAY", 0, 0, 99);
        term(2, "NEAR", 1, 1, 9);
        term(3, "TWIN", 5, 0, 999);
        test("promise 7, what: -1 and 4 are REFUSED by -1", () ->
            Bounds.refusedBeyond("terms: what", RICH, 0, 3, -1, (x, v) -> x.terms(v, 1)));
        test("promise 7: one TERM alone becomes another", () -> {
            SymmetryTax x = new SymmetryTax();
            x.terms(1, 50);
            int[] terms = {0, 50, 1, 5};
            for (int what = 0; what < 4; what++) {
                due("count(" + (10 + what) + ")", x.count(10 + what), terms[what]);
            }
        });
    }

    // ---- promise 8, 9 ----

    /** A tape of so many bytes. */
    private static Bounds.Act tapeOf(int bytes) {
        return RICH.then(x -> {
            x.end(0);
            for (int n = 0; n < bytes; n += 20) {
                x.feed(0x01020304, 0x05060708, 0x09000102, 0x03040506, 0x07080900);
            }
            x.end(bytes);
        });
    }

    private static void feed() {
        test("promise 8: twenty bytes, four of each number, the highest first", () -> {
            SymmetryTax x = Bounds.of(8, 8);
            due("feed", x.feed(0x00010203, 0x04050607, 0x08090001, 0x02030405, 0x06070809), 20);
            due("row()", x.row(), 19);
            for (int c = 0; c < 19; c++) {
                due("byte " + (c + 1), x.of(0, c % 8, c / 8), (c + 1) % 10);
            }
        });
        test("promise 8: the highest byte of a number below 0 is 128 to 255", () -> {
            SymmetryTax x = Bounds.of(8, 8);
            due("feed", x.feed(0x00800303, 0xff030303, 0x03030303, -1, Integer.MIN_VALUE), 20);
            due("row()", x.row(), 2 + 3 + 4 + 3);
        });
        test("promise 8: bytes come behind those that are there", () -> {
            SymmetryTax x = Bounds.of(8, 8);
            Bounds.tape(x, 0, 5);
            due("feed", x.feed(0x06070000, 0, 0, 0, 0), 22);
            x.row();
            due("of", x.of(0, 0, 0), 5);
            due("of", x.of(0, 1, 0), 6);
            due("of", x.of(0, 2, 0), 7);
        });
        test("promise 8, empty: the first answers 20", () -> {
            SymmetryTax x = new SymmetryTax();
            due("feed", x.feed(0, 0, 0, 0, 0), 20);
            due("count(3)", x.count(3), 20);
        });
        test("promise 8, full: 400 are taken, one more is NONE", () -> {
            due("380 and 20", Bounds.made(tapeOf(380)).feed(1, 2, 3, 4, 5), 400);
            Bounds.unchanged("feed behind 381", tapeOf(381), x -> x.feed(1, 2, 3, 4, 5), NONE);
            Bounds.unchanged("feed behind 399", tapeOf(399), x -> x.feed(1, 2, 3, 4, 5), NONE);
            Bounds.unchanged("feed behind 400", tapeOf(400), x -> x.feed(1, 2, 3, 4, 5), NONE);
        });
        test("promise 8, full: the last of 400 bytes is read", () -> {
            SymmetryTax x = new SymmetryTax();
            Bounds.text(x, "tax" + " ".repeat(396) + "7");
            due("count(3)", x.count(3), 400);
            due("law()", x.law(), 0);
            x.thing(1, 1, 0);
            x.force(0);
            due("tax", x.tax(0, 0), 7);
        });
        test("promise 8, full: there is room behind end()", () -> {
            SymmetryTax x = Bounds.made(tapeOf(400));
            due("feed", x.feed(0, 0, 0, 0, 0), NONE);
            x.end(380);
            due("feed", x.feed(0, 0, 0, 0, 0), 400);
        });
        test("promise 8: it is never REFUSED, status stays", () -> {
            SymmetryTax x = rich();
            x.force(9);
            due("feed", x.feed(0, 0, 0, 0, 0), 24);
            due("status()", x.status(), -2);
        });
    }

    private static void end() {
        test("promise 9: 0 and all bytes are taken, one more and -1 are NONE", () -> {
            due("none", Bounds.made(tapeOf(60)).end(0), 0);
            due("all", Bounds.made(tapeOf(60)).end(60), 60);
            Bounds.noneBeyond("end", tapeOf(60), 0, 60, (x, v) -> x.end(v));
            Bounds.noneBeyond("end", tapeOf(400), 0, 400, (x, v) -> x.end(v));
        });
        test("promise 9, empty: 0 is taken, 1 and -1 are NONE", () -> {
            Bounds.unchanged("end(0)", EMPTY, x -> x.end(0), 0);
            Bounds.noneBeyond("end", EMPTY, 0, 0, (x, v) -> x.end(v));
        });
        test("promise 9: its first bytes stay, the others do not come back", () -> {
            SymmetryTax x = Bounds.of(8, 1);
            Bounds.tape(x, 0, 1, 2, 3, 4, 5);
            due("end(3)", x.end(3), 3);
            due("count(3)", x.count(3), 3);
            due("end(4)", x.end(4), NONE);
            due("row()", x.row(), 2);
            due("of", x.of(0, 1, 0), 2);
            due("of", x.of(0, 2, 0), 0);
        });
        test("promise 9: all bytes leave the TAPE as it was", () ->
            Bounds.unchanged("end(4)", RICH, x -> x.end(4), 4));
        test("promise 9: it is never REFUSED, status stays", () -> {
            SymmetryTax x = rich();
            x.force(9);
            due("end", x.end(0), 0);
            due("status()", x.status(), -2);
            due("end", x.end(1), NONE);
            due("status()", x.status(), -2);
        });
    }

    // ---- promise 10, 11 ----

    private static Bounds.Act taped(int... bytes) {
        return SIX_THINGS.then(x -> {
            x.end(0);
            Bounds.tape(x, bytes);
        });
    }

    private static void refusedRow(String call, Bounds.Act setup) {
        Bounds.refused(call, setup, x -> x.end(0), Map.of(), SymmetryTax::row, -6);
    }

    private static void row() {
        test("promise 10, empty: -6", () -> {
            refusedRow("row() of an empty TAPE", taped());
            refusedRow("row() of a new object", EMPTY);
        });
        test("promise 10, THING: the last is painted, the next is REFUSED by -6, the TAPE is empty then", () -> {
            due("row()", Bounds.made(taped(5, 3)).row(), 1);
            refusedRow("row() with 6", taped(6, 1, 1, 1));
            refusedRow("row() with 255", taped(255, 1, 1, 1));
            refusedRow("row() with 128", taped(128, 1, 1, 1));
            refusedRow("row() of three THINGS", RICH.then(x -> {
                x.end(0);
                Bounds.tape(x, 3, 1, 1);
            }));
        });
        test("promise 10: the TAPE is empty then", () -> {
            SymmetryTax x = Bounds.made(taped(0, 5, 5));
            due("row()", x.row(), 2);
            due("count(3)", x.count(3), 0);
            due("row()", x.row(), -6);
        });
        test("promise 10: a THING's byte alone paints none", () -> {
            SymmetryTax x = Bounds.made(taped(0));
            due("row()", x.row(), 0);
            due("status()", x.status(), 0);
            due("of", x.of(0, 0, 0), 1);
        });
        test("promise 10, PARTS: 0 and 9 are painted, 10 and 255 leave a CELL as it was and are not counted", () -> {
            SymmetryTax x = Bounds.made(taped(0, 0, 9, 10, 255, 128, 0));
            due("row()", x.row(), 3);
            int[] parts = {0, 9, 3, 0, 0, 0};
            for (int c = 0; c < 6; c++) {
                due("cell " + c, x.of(0, c % 3, c / 3), parts[c]);
            }
        });
        test("promise 10: a CELL that gets the PART that it had was painted", () ->
            due("row()", Bounds.made(taped(0, 1, 2, 3)).row(), 3));
        test("promise 10: fewer bytes leave the other CELLS as they were", () -> {
            SymmetryTax x = Bounds.made(taped(0, 8, 8, 8, 8, 8));
            due("row()", x.row(), 5);
            due("the last but one", x.of(0, 1, 1), 8);
            due("the last", x.of(0, 2, 1), 9);
        });
        test("promise 10, full: all 64 CELLS row by row, and no byte beyond", () -> {
            int[] bytes = new int[67];
            bytes[0] = 5;
            for (int c = 0; c < 66; c++) {
                bytes[c + 1] = c % 9 + 1;
            }
            SymmetryTax x = Bounds.made(taped(bytes));
            due("row()", x.row(), 64);
            due("flakes()", x.flakes(), 2);
            for (int c = 0; c < 64; c++) {
                due("cell " + c, x.of(5, c % 8, c / 8), c % 9 + 1);
            }
        });
        test("promise 10: other THINGS, HOLES and PLACES stay", () -> {
            SymmetryTax x = Bounds.made(taped(0, 7, 7, 7, 7, 7, 7));
            x.row();
            due("another THING", x.of(1, 0, 0), 1);
            due("HOLES", x.fact(0, 4), 1);
            due("PLACE", x.fact(0, 5), 4);
        });
    }

    private static void flakes() {
        test("promise 11: 0 ahead of any row()", () -> due("flakes()", new SymmetryTax().flakes(), 0));
        test("promise 11: 0 ahead of any row() that was not REFUSED", () -> {
            SymmetryTax x = new SymmetryTax();
            Bounds.row(x, 0, 1, 1);
            due("flakes()", x.flakes(), 0);
        });
        test("promise 11: the last CELL's byte is none, the next is one", () -> {
            SymmetryTax x = Bounds.of(2, 1);
            Bounds.row(x, 0, 1);
            due("one CELL", x.flakes(), 0);
            Bounds.row(x, 0, 1, 1);
            due("all CELLS", x.flakes(), 0);
            Bounds.row(x, 0, 1, 1, 1);
            due("one more", x.flakes(), 1);
            Bounds.row(x, 0, 1, 1, 255, 10, 0);
            due("whatever bytes they are", x.flakes(), 3);
            Bounds.row(x, 0);
            due("none again", x.flakes(), 0);
        });
        test("promise 11, full: 398 of a TAPE of 400", () -> {
            SymmetryTax x = Bounds.of(1, 1);
            Bounds.tape(x, new int[400]);
            due("row()", x.row(), 1);
            due("flakes()", x.flakes(), 398);
        });
        test("promise 11: the latest row(), not all of them", () -> {
            SymmetryTax x = Bounds.of(1, 1);
            Bounds.row(x, 0, 1, 1, 1);
            Bounds.row(x, 0, 1, 1);
            due("flakes()", x.flakes(), 1);
        });
        test("promise 11: a REFUSED row() leaves them", () -> {
            SymmetryTax x = Bounds.of(1, 1);
            Bounds.row(x, 0, 1, 1, 1);
            due("empty", x.row(), -6);
            due("flakes()", x.flakes(), 2);
            due("no such THING", Bounds.row(x, 1, 1, 1, 1, 1), -6);
            due("flakes()", x.flakes(), 2);
        });
    }

    // ---- promise 12, 13 ----

    private static Bounds.Act texted(Bounds.Act setup, String text) {
        return setup.then(x -> {
            x.end(0);
            Bounds.text(x, text);
        });
    }

    private static void law() {
        test("promise 12: its number, 0 to 5, and a REFUSED one takes none", () -> {
            SymmetryTax x = new SymmetryTax();
            for (int l = 0; l < 6; l++) {
                due("tax", Bounds.law(x, "tax"), -6);
                due("tax " + l, Bounds.law(x, "tax " + l), l);
                due("status()", x.status(), 0);
            }
        });
        test("promise 12, full: a sixth is taken, a seventh is REFUSED by -5, the TAPE is empty then", () -> {
            due("six", Bounds.made(SIX_LAWS).count(1), 6);
            Bounds.refused("law(), a seventh", texted(SIX_LAWS, "tax 7"), x -> x.end(0), Map.of(), SymmetryTax::law, -5);
        });
        test("promise 12, full: -5 is ahead of reading it", () -> {
            Bounds.refused("law(), nonsense", texted(SIX_LAWS, "?"), x -> x.end(0), Map.of(), SymmetryTax::law, -5);
            Bounds.refused("law(), empty", texted(SIX_LAWS, ""), x -> x.end(0), Map.of(), SymmetryTax::law, -5);
            Bounds.refused("law(), blanks", texted(SIX_LAWS, "  "), x -> x.end(0), Map.of(), SymmetryTax::law, -5);
        });
        test("promise 12: a TEXT that can't be is REFUSED by -6, the TAPE is empty then", () ->
            Bounds.refused("law()", texted(RICH, "tax 5 5"), x -> x.end(0), Map.of("fault()", 6), SymmetryTax::law, -6));
        test("promise 12, empty: blanks alone are REFUSED by -6, FAULT at the end", () -> {
            Bounds.refused("law()", texted(RICH, "   "), x -> x.end(0), Map.of("fault()", 3), SymmetryTax::law, -6);
            Bounds.refused("law()", texted(RICH, " ".repeat(400)), x -> x.end(0), Map.of("fault()", 400), SymmetryTax::law, -6);
            Bounds.refused("law()", texted(RICH, ""), x -> x.end(0), Map.of("fault()", 0), SymmetryTax::law, -6);
        });
        test("promise 12: the TAPE is empty then", () -> {
            SymmetryTax x = Bounds.made(texted(RICH, "tax 7"));
            due("law()", x.law(), 2);
            due("count(3)", x.count(3), 0);
            due("count(1)", x.count(1), 3);
        });
        test("promise 12: a LAW is not in FORCE by that", () -> {
            SymmetryTax x = Bounds.made(texted(RICH, "tax 7"));
            x.law();
            due("count(9)", x.count(9), 1);
        });
        test("promise 12: many long TEXTS leave nothing behind for the next", () -> {
            SymmetryTax x = Bounds.of(1, 1);
            for (int n = 0; n < 40; n++) {
                due("too long", Bounds.law(x, "tax 1" + "+1".repeat(50)), -6);
            }
            due("a TEXT", Bounds.law(x, "tax 3;tax 4 if 1=2"), 0);
            x.force(0);
            due("tax", x.tax(0, 0), 3);
        });
        test("promise 12: a TEXT that was REFUSED leaves nothing behind for the next", () -> {
            SymmetryTax x = Bounds.of(1, 1);
            due("half a TEXT", Bounds.law(x, "tax 5;spares;tax 1+2 if 1=1 or [3"), -6);
            due("a TEXT", Bounds.law(x, "tax 3"), 0);
            x.force(0);
            due("tax", x.tax(0, 0), 3);
        });
    }

    private static void fault() {
        test("promise 13: NONE ahead of any law()", () -> due("fault()", new SymmetryTax().fault(), NONE));
        test("promise 13: NONE behind a law() without a FAULT", () -> {
            SymmetryTax x = new SymmetryTax();
            Bounds.law(x, "tax !");
            due("with", x.fault(), 4);
            Bounds.law(x, "tax 1");
            due("without", x.fault(), NONE);
        });
        test("promise 13: its place, 0 at the first byte, the length at the end", () -> {
            SymmetryTax x = new SymmetryTax();
            Bounds.law(x, "?");
            due("the first", x.fault(), 0);
            Bounds.law(x, "tax");
            due("the end", x.fault(), 3);
            Bounds.law(x, "tax 1" + " ".repeat(394) + "?");
            due("the last byte", x.fault(), 399);
            Bounds.law(x, "tax 1+" + " ".repeat(394));
            due("the end of 400", x.fault(), 400);
        });
        test("promise 13: the latest law()", () -> {
            SymmetryTax x = new SymmetryTax();
            Bounds.law(x, "tax !");
            Bounds.law(x, "tax 1 !");
            due("fault()", x.fault(), 6);
        });
        test("promise 13: a law() that read no TEXT, for there was no room, leaves it", () -> {
            SymmetryTax x = new SymmetryTax();
            for (int l = 0; l < 6; l++) {
                Bounds.law(x, "tax 1");
            }
            due("law()", Bounds.law(x, "tax !"), -5);
            due("fault()", x.fault(), NONE);
            x = new SymmetryTax();
            x.image(0);
            for (int l = 0; l < 6; l++) {
                Bounds.law(x, "tax 1");
            }
            x.image(1);
            x.back(0);
            due("law()", Bounds.law(x, "tax !"), -6);
            x.back(1);
            due("law()", Bounds.law(x, "tax 1"), -5);
            due("fault()", x.fault(), 4);
        });
        test("promise 13: a row() that can't be leaves it", () -> {
            SymmetryTax x = rich();
            x.end(0);
            due("row()", x.row(), -6);
            due("fault()", x.fault(), 4);
        });
    }

    // ---- promise 14 ----

    private static void force() {
        test("promise 14: NONE is in FORCE at first", () -> {
            SymmetryTax x = new SymmetryTax();
            due("force", x.force(NONE), NONE);
            due("status()", x.status(), 0);
        });
        test("promise 14: it answers which was", () -> {
            SymmetryTax x = rich();
            due("another", x.force(0), 1);
            due("the same", x.force(0), 0);
            due("none", x.force(NONE), 0);
            due("one", x.force(1), NONE);
            due("status()", x.status(), 0);
            due("count(9)", x.count(9), 1);
        });
        test("promise 14: NONE, 0 and the last are taken, -2 and the next are REFUSED by -2", () ->
            Bounds.refusedBeyond("force", RICH, NONE, 1, -2, (x, v) -> x.force(v)));
        test("promise 14, empty: NONE is taken, 0 is REFUSED by -2", () -> {
            Bounds.refusedBeyond("force", EMPTY, NONE, NONE, -2, (x, v) -> x.force(v));
            Bounds.unchanged("force(NONE)", EMPTY, x -> x.force(NONE), NONE);
        });
        test("promise 14, full: 5 is taken, 6 is REFUSED by -2", () -> {
            SymmetryTax x = Bounds.made(SIX_LAWS);
            due("force(5)", x.force(5), 1);
            due("tax", x.tax(0, 0), 5);
            Bounds.refusedBeyond("force", SIX_LAWS, NONE, 5, -2, (y, v) -> y.force(v));
        });
        test("promise 14: a LAW that was gone back behind is none", () -> {
            SymmetryTax x = rich();
            x.back(0);
            due("force(0)", x.force(0), -2);
            due("count(9)", x.count(9), NONE);
        });
    }

    // ---- promise 15 to 17 ----

    private interface AskLike {
        int of(SymmetryTax x, int thing, int like);
    }

    /** What promises 15, 17, 22, 34 say alike: NONE as for off. */
    private static void noneAsForOff(String promise, AskLike ask) {
        test(promise + ", THING: the next and -1 are NONE", () -> {
            Bounds.noneBeyond("THING", RICH, 0, 2, (x, v) -> ask.of(x, v, 0));
            Bounds.unchanged("no THINGS", EMPTY, x -> ask.of(x, 0, 0), NONE);
        });
        test(promise + ", LIKENESS: -1 and 6 of a square THING are NONE", () ->
            Bounds.noneBeyond("LIKENESS", RICH, 0, 5, (x, v) -> ask.of(x, 1, v)));
        test(promise + ", LIKENESS: 3 to 5 of one that is not square are NONE", () -> {
            for (int like = 3; like < 6; like++) {
                int l = like;
                Bounds.unchanged("LIKENESS " + l, RICH, x -> ask.of(x, 0, l), NONE);
            }
            Bounds.noneBeyond("LIKENESS", RICH, 0, 2, (x, v) -> ask.of(x, 0, v));
        });
        test(promise + ", LIKENESS: nearly square is not square", () -> {
            due("8 by 7", ask.of(Bounds.of(8, 7), 0, 3), NONE);
            due("7 by 8", ask.of(Bounds.of(7, 8), 0, 5), NONE);
            due("1 by 2", ask.of(Bounds.of(1, 2), 0, 4), NONE);
        });
    }

    private static void off() {
        noneAsForOff("promise 15", (x, t, like) -> x.off(t, like));
        test("promise 15: 0 of 1 by 1 by each LIKENESS", () -> {
            SymmetryTax x = Bounds.of(1, 1, 9);
            for (int like = 0; like < 6; like++) {
                due("off", x.off(0, like), 0);
            }
        });
        test("promise 15: all 64 at most", () -> {
            SymmetryTax x = quarters();
            due("off 0", x.off(0, 0), 64);
            due("off 1", x.off(0, 1), 64);
            due("off 2", x.off(0, 2), 64);
            due("off 5", x.off(0, 5), 64);
        });
        test("promise 15: a CELL that is taken to itself is never OFF", () -> {
            SymmetryTax x = Bounds.of(3, 3);
            x.paint(0, 1, 1, 5);
            for (int like = 0; like < 6; like++) {
                due("the middle, " + like, x.off(0, like), 0);
            }
            x.paint(0, 1, 0, 5);
            int[] edge = {0, 2, 2, 2, 2, 2};
            for (int like = 0; like < 6; like++) {
                due("above it, " + like, x.off(0, like), edge[like]);
            }
            x = Bounds.of(3, 3);
            x.paint(0, 2, 0, 5);
            int[] corner = {2, 2, 2, 2, 0, 2};
            for (int like = 0; like < 6; like++) {
                due("a corner, " + like, x.off(0, like), corner[like]);
            }
        });
    }

    /** 8 by 8, each quarter of its own part: 0 1 above 2 3. */
    private static SymmetryTax quarters() {
        int[] parts = new int[64];
        for (int c = 0; c < 64; c++) {
            parts[c] = c / 32 * 2 + c % 8 / 4;
        }
        return Bounds.of(8, 8, parts);
    }

    private static void has() {
        test("promise 16: none as bits is 0, all of a square THING 63, of another one 7", () -> {
            SymmetryTax x = Bounds.of(2, 2, 1, 2, 3, 4);
            due("none", x.has(0), 0);
            due("all", Bounds.of(2, 2).has(0), 63);
            due("all", Bounds.of(1, 1).has(0), 63);
            due("all of 2 by 1", Bounds.of(2, 1).has(0), 7);
        });
        test("promise 16: each LIKENESS is its own bit", () -> {
            int[][] things = {
                {1, 1, 2, 2}, {1, 2, 1, 2}, {1, 2, 2, 1}, {1, 2, 2, 3}, {1, 2, 3, 1}, {1, 1, 1, 1}};
            int[] bits = {1, 2, 4 + 8 + 16, 8, 16, 63};
            for (int n = 0; n < 6; n++) {
                due("thing " + n, Bounds.of(2, 2, things[n]).has(0), bits[n]);
            }
        });
        test("promise 16, SLACK: as much OFF as it HAS it, one more has it not", () -> {
            SymmetryTax x = Bounds.of(2, 1, 1, 2);
            x.terms(0, 1);
            due("2 OFF by 1", x.has(0), 2);
            x.terms(0, 2);
            due("2 OFF by 2", x.has(0), 7);
            x = quarters();
            x.terms(0, 63);
            due("64 OFF by 63", x.has(0) & 39, 0);
            x.terms(0, 64);
            due("64 OFF by 64", x.has(0), 63);
        });
        test("promise 16, THING: the next and -1 are NONE", () -> {
            Bounds.noneBeyond("has", RICH, 0, 2, (x, v) -> x.has(v));
            Bounds.unchanged("no THINGS", EMPTY, x -> x.has(0), NONE);
        });
    }

    private static int taxBy(String text) {
        SymmetryTax x = Bounds.of(2, 1, 1, 2);
        due(text, Bounds.law(x, text), 0);
        x.force(0);
        return x.tax(0, 0);
    }

    private static void tax() {
        noneAsForOff("promise 17", (x, t, like) -> x.tax(t, like));
        test("promise 17: whether it HAS it or not", () -> {
            SymmetryTax x = Bounds.of(2, 1, 1, 2);
            due("has", x.has(0), 2);
            due("tax of 0", x.tax(0, 0), 10);
            due("tax of 1", x.tax(0, 1), 10);
        });
        test("promise 17: 0 and 999 at the sides, else the nearest", () -> {
            due("0", taxBy("tax 0"), 0);
            due("below 0", taxBy("tax 0-1"), 0);
            due("far below 0", taxBy("tax 0-1000*1000*1000"), 0);
            due("1", taxBy("tax 1"), 1);
            due("998", taxBy("tax 998"), 998);
            due("999", taxBy("tax 999"), 999);
            due("1000", taxBy("tax 1000"), 999);
            due("far beyond", taxBy("tax 1000*1000*1000"), 999);
        });
        test("promise 17: 10 without a LAW in FORCE", () -> {
            SymmetryTax x = Bounds.of(1, 1);
            Bounds.law(x, "tax 7");
            due("not in FORCE", x.tax(0, 0), 10);
            x.force(0);
            due("in FORCE", x.tax(0, 0), 7);
            x.force(NONE);
            due("no more", x.tax(0, 0), 10);
        });
    }

    // ---- promise 18 to 21 ----

    private static void owes() {
        test("promise 18: NONE asks for all; there may be none", () -> {
            due("no THINGS", new SymmetryTax().owes(NONE), 0);
            SymmetryTax x = Bounds.made(SIX_THINGS);
            int sum = 0;
            for (int t = 0; t < 6; t++) {
                sum += x.owes(t);
            }
            due("all six", x.owes(NONE), sum);
        });
        test("promise 18, THING: -2 and the next are NONE", () -> {
            Bounds.noneBeyond("owes", RICH, NONE, 2, (x, v) -> x.owes(v));
            Bounds.unchanged("no THINGS", EMPTY, x -> x.owes(0), NONE);
        });
        test("promise 18: the LIKENESSES that it HAS alone", () -> {
            SymmetryTax x = Bounds.of(2, 1, 1, 2);
            Bounds.law(x, "tax like+1");
            x.force(0);
            due("LIKENESS 1", x.owes(0), 2);
            x.terms(0, 2);
            due("all three", x.owes(0), 6);
            due("none", Bounds.of(2, 2, 1, 2, 3, 4).owes(0), 0);
        });
        test("promise 18, full: six THINGS by six LIKENESSES of 999", () -> {
            SymmetryTax x = new SymmetryTax();
            for (int t = 0; t < 6; t++) {
                x.thing(8, 8, t);
            }
            Bounds.law(x, "tax 999");
            x.force(0);
            due("one", x.owes(5), 5994);
            due("all", x.owes(NONE), 35964);
        });
    }

    private static void owner() {
        test("promise 19, OWNER: 0 and 5 are told, -1 and 6 are NONE", () -> {
            SymmetryTax x = new SymmetryTax();
            x.thing(1, 1, 0);
            x.thing(2, 1, 5);
            due("0", x.owner(0), 60);
            due("5", x.owner(5), 30);
            Bounds.noneBeyond("owner", RICH, 0, 5, (y, v) -> y.owner(v));
            Bounds.noneBeyond("owner", EMPTY, 0, 5, (y, v) -> y.owner(v));
        });
        test("promise 19: 0 of an OWNER without THINGS", () -> {
            due("no THINGS", new SymmetryTax().owner(0), 0);
            due("others have some", rich().owner(4), 0);
        });
        test("promise 19: all THINGS of an OWNER, the last too", () -> {
            SymmetryTax x = new SymmetryTax();
            for (int t = 0; t < 6; t++) {
                x.thing(1, 1, t == 2 ? 3 : 4);
            }
            due("five", x.owner(4), 300);
            due("one", x.owner(3), 60);
        });
    }

    private static void brings() {
        test("promise 20, LAW: NONE, 0 and the last are told, -2 and the next are NONE", () -> {
            SymmetryTax x = Bounds.of(1, 1);
            due("none, without LAWS", x.brings(NONE), 60);
            Bounds.law(x, "tax 3");
            Bounds.law(x, "tax 4");
            due("none", x.brings(NONE), 60);
            due("0", x.brings(0), 18);
            due("1", x.brings(1), 24);
            due("2", x.brings(2), NONE);
            Bounds.noneBeyond("brings", RICH, NONE, 1, (y, v) -> y.brings(v));
            Bounds.noneBeyond("brings", EMPTY, NONE, NONE, (y, v) -> y.brings(v));
            Bounds.noneBeyond("brings", SIX_LAWS, NONE, 5, (y, v) -> y.brings(v));
        });
        test("promise 20: by SLACK and DAY as they stand", () -> {
            SymmetryTax x = Bounds.of(2, 1, 1, 2);
            Bounds.law(x, "tax day");
            x.terms(1, 7);
            due("LIKENESS 1 alone", x.brings(0), 7);
            x.terms(0, 2);
            due("all three", x.brings(0), 21);
            due("by none", x.brings(NONE), 30);
            x.terms(1, 99);
            due("the last DAY", x.brings(0), 297);
            x.terms(1, 0);
            due("the first DAY", x.brings(0), 0);
        });
        test("promise 20: no THINGS bring 0", () -> due("brings(NONE)", new SymmetryTax().brings(NONE), 0));
        test("promise 20: what is in FORCE stays", () -> {
            SymmetryTax x = rich();
            int owed = x.owes(NONE);
            Bounds.unchanged("brings(0)", RICH, y -> y.brings(0), x.brings(0));
            Bounds.unchanged("brings(NONE)", RICH, y -> y.brings(NONE), x.brings(NONE));
            due("brings(1)", x.brings(1), owed);
        });
    }

    private static void dearest() {
        test("promise 21: NONE without LAWS", () -> {
            due("a new object", new SymmetryTax().dearest(), NONE);
            due("THINGS alone", Bounds.of(1, 1).dearest(), NONE);
        });
        test("promise 21: of alike ones the lowest", () -> {
            SymmetryTax x = Bounds.of(1, 1);
            Bounds.law(x, "tax 1");
            Bounds.law(x, "tax 5");
            Bounds.law(x, "tax 5");
            Bounds.law(x, "tax 4");
            due("dearest()", x.dearest(), 1);
        });
        test("promise 21: though none bring anything", () -> {
            SymmetryTax x = new SymmetryTax();
            Bounds.law(x, "tax 1");
            Bounds.law(x, "tax 2");
            due("no THINGS", x.dearest(), 0);
            x.thing(1, 1, 0);
            due("a THING", x.dearest(), 1);
            x = Bounds.of(1, 1);
            Bounds.law(x, "spares");
            due("one that spares", x.dearest(), 0);
        });
        test("promise 21: by SLACK and DAY as they stand", () -> {
            SymmetryTax x = Bounds.of(2, 1, 1, 2);
            Bounds.law(x, "tax 4");
            Bounds.law(x, "tax day");
            Bounds.law(x, "tax off+1");
            int[][] slackDayDearest = {{0, 0, 0}, {0, 4, 0}, {0, 5, 1}, {64, 3, 0}, {64, 4, 0}, {64, 5, 1}, {0, 99, 1}, {2, 0, 0}};
            for (int[] n : slackDayDearest) {
                x.terms(0, n[0]);
                x.terms(1, n[1]);
                due("SLACK " + n[0] + ", DAY " + n[1], x.dearest(), n[2]);
            }
            Bounds.law(x, "tax off*3");
            due("LIKENESS 1 is OFF by none, 0 and 2 by two: as 4", x.dearest(), 0);
            Bounds.law(x, "tax off*3+1");
            due("one more for each", x.dearest(), 4);
            x.terms(0, 1);
            due("LIKENESS 1 alone", x.dearest(), 0);
        });
        test("promise 21, full: the last of six", () -> {
            SymmetryTax x = Bounds.made(SIX_LAWS);
            Bounds.unchanged("dearest()", SIX_LAWS, y -> y.dearest(), x.dearest());
            x = Bounds.of(1, 1);
            for (int l = 0; l < 6; l++) {
                Bounds.law(x, "tax " + l);
            }
            due("dearest()", x.dearest(), 5);
        });
    }

    // ---- promise 22, 23 ----

    private static void quite() {
        noneAsForOff("promise 22", (x, t, like) -> x.quite(t, like));
        test("promise 22: 0, if it is QUITE ALIKE", () -> {
            SymmetryTax x = Bounds.of(1, 1, 5);
            for (int like = 0; like < 6; like++) {
                due("1 by 1", x.quite(0, like), 0);
            }
            due("8 by 8", Bounds.of(8, 8).quite(0, 5), 0);
        });
        test("promise 22: half of the CELLS at most by 0, three of four by 5", () -> {
            SymmetryTax x = quarters();
            due("by 0", x.quite(0, 0), 32);
            due("by 1", x.quite(0, 1), 32);
            due("by 2", x.quite(0, 2), 32);
            due("by 5", x.quite(0, 5), 48);
        });
        test("promise 22: it is on paper", () -> Bounds.unchanged("quite(0, 0)", RICH, x -> x.quite(0, 0), 2));
    }

    private static void quiteAt() {
        noneAsForOff("promise 23", (x, t, like) -> x.quiteAt(t, like, 0, 0));
        test("promise 23, x: the last is told, WIDE and -1 are NONE", () -> {
            due("the last", rich().quiteAt(0, 0, 2, 0), 1);
            Bounds.noneBeyond("quiteAt: x", RICH, 0, 2, (x, v) -> x.quiteAt(0, 0, v, 0));
        });
        test("promise 23, y: the last is told, TALL and -1 are NONE", () -> {
            due("the last", rich().quiteAt(0, 0, 2, 1), 0);
            Bounds.noneBeyond("quiteAt: y", RICH, 0, 1, (x, v) -> x.quiteAt(0, 0, 0, v));
        });
        test("promise 23: that PART that most have, of alike ones the lowest", () -> {
            SymmetryTax x = Bounds.of(2, 2, 9, 9, 0, 9);
            due("three of four", x.quiteAt(0, 5, 0, 1), 9);
            due("painted", x.quite(0, 5), 1);
            x = Bounds.of(2, 2, 9, 4, 4, 9);
            due("two and two", x.quiteAt(0, 5, 0, 0), 4);
            due("painted", x.quite(0, 5), 2);
            x = Bounds.of(2, 2, 9, 8, 6, 7);
            due("four unlike ones", x.quiteAt(0, 5, 1, 0), 6);
            due("painted", x.quite(0, 5), 3);
            x = Bounds.of(2, 2, 3, 7, 7, 1);
            due("two and others that are lower", x.quiteAt(0, 5, 0, 0), 7);
            x = Bounds.of(2, 1, 9, 0);
            due("one and one", x.quiteAt(0, 0, 0, 0), 0);
        });
        test("promise 23: a CELL that is taken to itself stays", () -> {
            SymmetryTax x = Bounds.of(3, 3, 0, 0, 0, 0, 9, 0, 0, 0, 0);
            for (int like = 0; like < 6; like++) {
                due("the middle", x.quiteAt(0, like, 1, 1), 9);
            }
        });
        test("promise 23: it is QUITE ALIKE then, by each LIKENESS of 8 by 8", () -> {
            for (int like = 0; like < 6; like++) {
                quiteAlike(like);
            }
        });
    }

    private static void quiteAlike(int like) {
        int[] parts = new int[64];
        for (int c = 0; c < 64; c++) {
            parts[c] = c * c % 11 % 10;
        }
        SymmetryTax x = Bounds.of(8, 8, parts);
        int[] then = new int[64];
        int painted = 0;
        for (int c = 0; c < 64; c++) {
            then[c] = x.quiteAt(0, like, c % 8, c / 8);
            painted += then[c] == parts[c] ? 0 : 1;
        }
        due("quite(0, " + like + ")", x.quite(0, like), painted);
        due("off", Bounds.of(8, 8, then).off(0, like), 0);
    }

    // ---- promise 24 ----

    /** A thing that owes unless all its parts are alike. */
    private static Bounds.Act unlessOnePart(int wide, int... parts) {
        return x -> {
            Bounds.add(x, wide, 1, 0, parts);
            Bounds.law(x, "spares if off=0 and parts=1");
            x.force(0);
        };
    }

    private static void dueFree(SymmetryTax x, int part, int... want) {
        for (int what = 0; what < 5; what++) {
            due("free(0, " + part + ", " + what + ")", x.free(0, part, what), want[what]);
        }
    }

    private static void free() {
        test("promise 24, 0 CELLS: it OWES nothing as it is, one way, no first", () -> {
            dueFree(Bounds.made(unlessOnePart(3, 4, 4, 4)), 9, 0, NONE, NONE, NONE, 1);
            dueFree(Bounds.of(2, 2, 1, 2, 3, 4), 0, 0, NONE, NONE, NONE, 1);
        });
        test("promise 24, 1 CELL: there is no second", () -> {
            dueFree(Bounds.made(unlessOnePart(4, 9, 9, 9, 8)), 9, 1, 3, NONE, NONE, 1);
            dueFree(Bounds.of(3, 2), 1, 1, 0, NONE, NONE, 4);
        });
        test("promise 24, 2 CELLS: there is no third", () -> {
            dueFree(Bounds.made(unlessOnePart(4, 9, 7, 9, 8)), 9, 2, 1, 3, NONE, 1);
            dueFree(Bounds.of(3, 3), 1, 2, 0, 1, NONE, 16);
        });
        test("promise 24, 3 CELLS: the last that is tried", () -> {
            dueFree(Bounds.made(unlessOnePart(4, 6, 7, 9, 8)), 9, 3, 0, 1, 3, 1);
            dueFree(Bounds.made(unlessOnePart(8, 1, 1, 2, 1, 1, 2, 1, 2)), 1, 3, 2, 5, 7, 1);
        });
        test("promise 24, 4 CELLS are too many: NONE, but for 4", () ->
            dueFree(Bounds.made(unlessOnePart(4, 6, 7, 5, 8)), 9, NONE, NONE, NONE, NONE, 0));
        test("promise 24: the PART that all have frees nothing", () -> {
            dueFree(Bounds.of(2, 2), 0, NONE, NONE, NONE, NONE, 0);
            dueFree(Bounds.of(1, 1), 5, NONE, NONE, NONE, NONE, 0);
        });
        test("promise 24: fewer CELLS than 3 are there", () -> {
            dueFree(Bounds.made(unlessOnePart(2, 1, 2)), 9, 2, 0, 1, NONE, 1);
            SymmetryTax x = Bounds.of(1, 1, 1);
            Bounds.law(x, "tax 5;tax 0 if day=9");
            x.force(0);
            dueFree(x, 9, NONE, NONE, NONE, NONE, 0);
        });
        test("promise 24: the first as a row, lower ones ahead", () -> {
            // 3 by 1, its own LIKENESS 1 spared: a side's CELL, not the middle one
            SymmetryTax x = Bounds.of(3, 1);
            Bounds.law(x, "spares if like=1");
            x.force(0);
            dueFree(x, 1, 1, 0, NONE, NONE, 2);
            x = Bounds.of(8, 8);
            due("8 by 8", x.free(0, 1, 0), 1);
            due("the first CELL on no line", x.free(0, 1, 1), 1);
            due("all on no line", x.free(0, 1, 4), 64 - 16);
        });
        test("promise 24, PART: 0 and 9 are taken, -1 and 10 are NONE", () -> {
            due("0", Bounds.of(3, 2, 9, 9, 9, 9, 9, 9).free(0, 0, 0), 1);
            due("9", Bounds.of(3, 2).free(0, 9, 0), 1);
            for (int what = 0; what < 5; what += 4) {
                int w = what;
                Bounds.noneBeyond("free: PART", RICH, 0, 9, (x, v) -> x.free(0, v, w));
            }
        });
        test("promise 24, what: 0 and 4 are told, -1 and 5 are NONE", () ->
            Bounds.noneBeyond("free: what", RICH, 0, 4, (x, v) -> x.free(0, 1, v)));
        test("promise 24, THING: the next and -1 are NONE, for 4 too", () -> {
            Bounds.noneBeyond("free: THING", RICH, 0, 2, (x, v) -> x.free(v, 1, 4));
            Bounds.noneBeyond("free: THING", RICH, 0, 2, (x, v) -> x.free(v, 1, 0));
            Bounds.unchanged("no THINGS", EMPTY, x -> x.free(0, 1, 4), NONE);
        });
        test("promise 24: it is on paper", () -> {
            Bounds.Act setup = unlessOnePart(4, 6, 7, 9, 8);
            Bounds.unchanged("free(0, 9, 0)", setup, x -> x.free(0, 9, 0), 3);
        });
        test("promise 24: of another THING, of another PART in turn", () -> {
            SymmetryTax x = Bounds.made(unlessOnePart(4, 6, 7, 9, 8));
            Bounds.add(x, 4, 1, 0, 6, 6, 6, 9);
            for (int n = 0; n < 2; n++) {
                due("9", x.free(0, 9, 3), 3);
                due("8", x.free(0, 8, 3), 2);
                due("5", x.free(0, 5, 0), NONE);
                due("another THING", x.free(1, 5, 0), NONE);
                due("another THING", x.free(1, 6, 1), 3);
                due("the THING again", x.free(0, 6, 1), 1);
                due("no THING", x.free(2, 6, 1), NONE);
            }
        });
        test("promise 24: it is asked anew when something changed", () -> {
            SymmetryTax x = Bounds.made(unlessOnePart(4, 6, 7, 9, 8));
            due("3", x.free(0, 9, 0), 3);
            x.paint(0, 0, 0, 9);
            due("painted", x.free(0, 9, 0), 2);
            due("a row()", Bounds.row(x, 0, 9, 9), 2);
            due("a row()", x.free(0, 9, 0), 1);
            x.force(NONE);
            due("a LAW", x.free(0, 9, 0), NONE);
            x.force(0);
            due("a LAW", x.free(0, 9, 1), 3);
            x.terms(0, 64);
            due("SLACK", x.free(0, 9, 4), 1);
            x.terms(0, 0);
            x.image(0);
            x.paint(0, 3, 0, 9);
            due("painted", x.free(0, 9, 0), 0);
            x.back(0);
            due("back", x.free(0, 9, 0), 1);
        });
    }

    // ---- promise 25 to 27 ----

    private static void form() {
        test("promise 25, FORM: 0 and 7 are told, -1 and 8 are NONE", () -> {
            SymmetryTax x = Bounds.of(2, 2, 1, 2, 3, 4);
            int[] first = {2, 3, 4, 1, 4, 2, 1, 3};
            for (int form = 0; form < 8; form++) {
                due("form " + form, x.form(0, form, 0, 0), first[form]);
            }
            Bounds.noneBeyond("form", RICH, 0, 7, (y, v) -> y.form(1, v, 0, 0));
        });
        test("promise 25, FORM: 3, 4, 5, 7 of a THING that is not square are NONE, 0, 1, 2, 6 are told", () -> {
            SymmetryTax x = Bounds.of(3, 2, 1, 2, 3, 4, 5, 6);
            int[] first = {3, 4, 6, NONE, NONE, NONE, 1, NONE};
            for (int form = 0; form < 8; form++) {
                due("form " + form, x.form(0, form, 0, 0), first[form]);
            }
            for (int form : new int[] {3, 4, 5, 7}) {
                Bounds.unchanged("form " + form, RICH, y -> y.form(0, form, 0, 0), NONE);
            }
        });
        test("promise 25, x: the last is told, WIDE and -1 are NONE", () -> {
            due("the last", rich().form(0, 0, 2, 0), 1);
            Bounds.noneBeyond("form: x", RICH, 0, 2, (x, v) -> x.form(0, 0, v, 0));
            Bounds.noneBeyond("form: x, turned", RICH, 0, 1, (x, v) -> x.form(1, 5, v, 0));
        });
        test("promise 25, y: the last is told, TALL and -1 are NONE", () -> {
            due("the last", rich().form(0, 0, 0, 1), 9);
            Bounds.noneBeyond("form: y", RICH, 0, 1, (x, v) -> x.form(0, 0, 0, v));
            Bounds.noneBeyond("form: y, turned", RICH, 0, 1, (x, v) -> x.form(1, 5, 0, v));
        });
        test("promise 25, THING: the next and -1 are NONE", () -> {
            Bounds.noneBeyond("form: THING", RICH, 0, 2, (x, v) -> x.form(v, 0, 0, 0));
            Bounds.unchanged("no THINGS", EMPTY, x -> x.form(0, 6, 0, 0), NONE);
        });
        test("promise 25: corners of 8 by 8", () -> {
            SymmetryTax x = quarters();
            int[] last = {2, 1, 0, 3, 0, 2, 3, 1};
            for (int form = 0; form < 8; form++) {
                due("form " + form, x.form(0, form, 7, 7), last[form]);
            }
        });
        test("promise 25: 1 by 1 has all eight", () -> {
            SymmetryTax x = Bounds.of(1, 1, 6);
            for (int form = 0; form < 8; form++) {
                due("form " + form, x.form(0, form, 0, 0), 6);
            }
        });
    }

    private static void order() {
        test("promise 26: 1 at least, 8 at most, 4 of one that is not square", () -> {
            due("as it is alone", Bounds.of(2, 2, 1, 2, 3, 4).order(0), 1);
            due("all", Bounds.of(2, 2).order(0), 8);
            due("1 by 1", Bounds.of(1, 1).order(0), 8);
            due("8 by 8", Bounds.of(8, 8).order(0), 8);
            due("not square, alone", Bounds.of(3, 2, 1, 2, 3, 4, 5, 6).order(0), 1);
            due("not square, all", Bounds.of(8, 7).order(0), 4);
            due("1 by 8", Bounds.of(1, 8).order(0), 4);
        });
        test("promise 26, THING: each has its own, the last of six too", () -> {
            SymmetryTax x = Bounds.of(2, 2, 1, 2, 3, 4);
            Bounds.add(x, 2, 2, 0);
            Bounds.add(x, 3, 1, 0, 1, 2, 1);
            Bounds.add(x, 2, 2, 0, 1, 1, 2, 2);
            Bounds.add(x, 2, 2, 0, 1, 2, 2, 1);
            Bounds.add(x, 8, 8, 0, 1);
            int[] orders = {1, 8, 4, 2, 4, 2};
            for (int t = 0; t < 6; t++) {
                due("order(" + t + ")", x.order(t), orders[t]);
            }
        });
        test("promise 26: SLACK makes no FORM alike", () -> {
            SymmetryTax x = Bounds.of(2, 2, 1, 2, 3, 4);
            x.terms(0, 64);
            due("order", x.order(0), 1);
        });
        test("promise 26, THING: the next and -1 are NONE", () -> {
            Bounds.noneBeyond("order", RICH, 0, 2, (x, v) -> x.order(v));
            Bounds.unchanged("no THINGS", EMPTY, x -> x.order(0), NONE);
        });
    }

    private static void forms() {
        test("promise 27: none as bits is 0, all are 255, of one that is not square 71", () -> {
            SymmetryTax x = Bounds.of(2, 2);
            Bounds.add(x, 2, 2, 0, 1, 0, 0, 0);
            Bounds.add(x, 3, 1, 0);
            due("none", x.forms(0, 1), 0);
            due("all", x.forms(0, 0), 255);
            due("not square", x.forms(2, 2), 71);
        });
        test("promise 27: each FORM is its own bit", () -> {
            int[][] things = {{2, 1, 4, 3}, {3, 4, 1, 2}, {4, 3, 2, 1}, {1, 3, 2, 4}, {4, 2, 3, 1}, {2, 4, 1, 3}};
            for (int n = 0; n < 6; n++) {
                SymmetryTax x = Bounds.of(2, 2, 1, 2, 3, 4);
                Bounds.add(x, 2, 2, 0, things[n]);
                due("form " + n, x.forms(0, 1), 1 << n);
            }
            SymmetryTax x = Bounds.of(2, 2, 1, 2, 3, 4);
            due("form 6", x.forms(0, 0), 64);
            Bounds.add(x, 2, 2, 0, 3, 1, 4, 2);
            due("form 7", x.forms(0, 1), 128);
        });
        test("promise 27: other sides are never alike", () -> {
            SymmetryTax x = Bounds.of(2, 1);
            Bounds.add(x, 1, 2, 0);
            Bounds.add(x, 2, 2, 0);
            Bounds.add(x, 3, 1, 0);
            for (int t = 0; t < 4; t++) {
                for (int o = 0; o < 4; o++) {
                    due("forms(" + t + ", " + o + ")", x.forms(t, o), t != o ? 0 : t == 2 ? 255 : 71);
                }
            }
        });
        test("promise 27, THING: the next and -1 are NONE, on either side", () -> {
            due("the last", rich().forms(2, 0), 1);
            Bounds.noneBeyond("forms: THING", RICH, 0, 2, (x, v) -> x.forms(v, 0));
            Bounds.noneBeyond("forms: other", RICH, 0, 2, (x, v) -> x.forms(0, v));
            Bounds.unchanged("no THINGS", EMPTY, x -> x.forms(0, 0), NONE);
        });
    }

    // ---- promise 28, 29 ----

    /** 3 by 1 with holes left and in the middle, and 2 on the right: 30 is owed if the sides are alike, else 10. */
    private static void holed(SymmetryTax x) {
        Bounds.add(x, 3, 1, 0, 9, 5, 2);
        x.hole(0, 0, 0, 1);
        x.hole(0, 1, 0, 1);
    }

    private static final Bounds.Act HOLED = PromiseBoundaryTest::holed;

    private static void fills() {
        test("promise 28, PARTS: 2 and 4 are taken, 1 and 5 are NONE", () -> {
            SymmetryTax x = Bounds.made(HOLED);
            due("2", x.fills(0, 2, 10), 4);
            due("3", x.fills(0, 3, 10), 6);
            due("4", x.fills(0, 4, 10), 12);
            Bounds.noneBeyond("fills: PARTS", HOLED, 2, 4, (y, v) -> y.fills(0, v, 10));
        });
        test("promise 28, PARTS: 0, 1 and so on, so many of them", () -> {
            SymmetryTax x = Bounds.made(HOLED);
            due("2 is not among two", x.fills(0, 2, 30), 0);
            due("2 is among three", x.fills(0, 3, 30), 3);
            x.paint(0, 2, 0, 0);
            due("0 is among two", x.fills(0, 2, 30), 2);
            x.paint(0, 2, 0, 3);
            due("3 is not among three", x.fills(0, 3, 30), 0);
            due("3 is among four", x.fills(0, 4, 30), 4);
            x.paint(0, 2, 0, 4);
            due("4 is not among four", x.fills(0, 4, 30), 0);
        });
        test("promise 28, sum: 0 and 9999 are taken, -1 and 10000 are NONE", () -> {
            SymmetryTax x = Bounds.made(HOLED);
            due("0", x.fills(0, 2, 0), 0);
            due("9999", x.fills(0, 2, 9999), 0);
            Bounds.law(x, "spares");
            x.force(0);
            due("0 is owed by all", x.fills(0, 2, 0), 4);
            Bounds.noneBeyond("fills: sum", HOLED, 0, 9999, (y, v) -> y.fills(0, 2, v));
        });
        test("promise 28, sum: just so much, not one more or less", () -> {
            SymmetryTax x = Bounds.made(HOLED);
            int[] sums = {9, 10, 11, 29, 30, 31};
            int[] ways = {0, 6, 0, 0, 3, 0};
            for (int n = 0; n < 6; n++) {
                due("sum " + sums[n], x.fills(0, 3, sums[n]), ways[n]);
            }
        });
        test("promise 28, empty: without HOLES it is filled in one way, as it is", () -> {
            SymmetryTax x = Bounds.of(2, 1, 7, 8);
            due("what it OWES", x.fills(0, 2, 10), 1);
            due("another sum", x.fills(0, 2, 30), 0);
        });
        test("promise 28, full: six HOLES in each way", () -> {
            SymmetryTax x = Bounds.of(8, 8);
            x.terms(0, 64);
            for (int c = 0; c < 6; c++) {
                x.hole(0, 7 - c, 7, 1);
            }
            due("by 2", x.fills(0, 2, 60), 64);
            due("by 3", x.fills(0, 3, 60), 729);
            due("by 4", x.fills(0, 4, 60), 4096);
        });
        test("promise 28, full: a THING of HOLES alone", () -> {
            SymmetryTax x = Bounds.of(3, 2);
            for (int c = 0; c < 6; c++) {
                x.hole(0, c % 3, c / 3, 1);
            }
            // both rows alike on both sides: two for each of them; all three LIKENESSES: the rows are alike, too
            due("all three", x.fills(0, 2, 30), 4);
            due("one of three", x.fills(0, 2, 10), 12 + 4 + 4);
            due("none", x.fills(0, 2, 0), 64 - 4 - 20);
        });
        test("promise 28, THING: the next and -1 are NONE", () -> {
            Bounds.noneBeyond("fills: THING", RICH, 0, 2, (x, v) -> x.fills(v, 2, 10));
            Bounds.unchanged("no THINGS", EMPTY, x -> x.fills(0, 2, 0), NONE);
        });
        test("promise 28: it is on paper", () -> Bounds.unchanged("fills", HOLED, x -> x.fills(0, 4, 30), 4));
        test("promise 28: of another THING, other PARTS, another sum in turn", () -> {
            SymmetryTax x = Bounds.made(HOLED);
            Bounds.add(x, 2, 1, 0, 1, 2);
            x.hole(1, 0, 0, 1);
            for (int n = 0; n < 2; n++) {
                due("3, 10", x.fills(0, 3, 10), 6);
                due("3, 30", x.fills(0, 3, 30), 3);
                due("4, 30", x.fills(0, 4, 30), 4);
                due("another THING", x.fills(1, 4, 30), 1);
                due("another THING", x.sure(1, 4, 30, 0, 0), 2);
                due("the THING again", x.sure(0, 4, 30, 0, 0), 2);
                due("no THING", x.fills(2, 4, 30), NONE);
            }
        });
        test("promise 28: a HOLE in the last CELL of 8 by 8, and none", () -> {
            SymmetryTax x = Bounds.of(8, 8);
            due("none", x.fills(0, 4, 60), 1);
            x.hole(0, 7, 7, 1);
            due("one", x.fills(0, 4, 60), 1);
            // the last CELL lies on the line of LIKENESS 3, and is OFF all others
            due("one", x.fills(0, 4, 10), 3);
            due("sure", x.sure(0, 4, 60, 7, 7), 0);
        });
        test("promise 28: it is asked anew when something changed", () -> {
            SymmetryTax x = Bounds.made(HOLED);
            due("two HOLES", x.fills(0, 3, 10), 6);
            x.hole(0, 1, 0, 0);
            due("one HOLE", x.fills(0, 3, 10), 2);
            x.terms(0, 2);
            due("SLACK", x.fills(0, 3, 30), 3);
            Bounds.law(x, "tax 1");
            x.force(0);
            due("a LAW", x.fills(0, 3, 30), 0);
            due("a LAW", x.fills(0, 3, 3), 3);
        });
    }

    private static void sure() {
        test("promise 29: the PART that it has in all FILLINGS", () -> {
            SymmetryTax x = Bounds.made(HOLED);
            due("alike to the other side", x.sure(0, 3, 30, 0, 0), 2);
            x.paint(0, 2, 0, 0);
            due("0 is a PART too", x.sure(0, 3, 30, 0, 0), 0);
            x.paint(0, 2, 0, 3);
            due("3 of four", x.sure(0, 4, 30, 0, 0), 3);
        });
        test("promise 29: unlike ones are NONE", () -> {
            Bounds.unchanged("the middle", HOLED, x -> x.sure(0, 3, 30, 1, 0), NONE);
            Bounds.unchanged("0 or 1", HOLED, x -> x.sure(0, 3, 10, 0, 0), NONE);
        });
        test("promise 29: by one FILLING all are sure", () -> {
            SymmetryTax x = Bounds.made(HOLED);
            x.hole(0, 1, 0, 0);
            due("one FILLING", x.fills(0, 3, 30), 1);
            due("sure", x.sure(0, 3, 30, 0, 0), 2);
        });
        test("promise 29: without FILLINGS it is NONE", () ->
            Bounds.unchanged("none", HOLED, x -> x.sure(0, 2, 30, 0, 0), NONE));
        test("promise 29: without FILLINGS it is NONE, though there were some ahead", () -> {
            SymmetryTax x = Bounds.made(HOLED);
            due("some", x.sure(0, 3, 30, 0, 0), 2);
            due("none", x.sure(0, 3, 31, 0, 0), NONE);
        });
        test("promise 29: a CELL that is no HOLE is NONE", () -> {
            Bounds.unchanged("no HOLE", HOLED, x -> x.sure(0, 3, 30, 2, 0), NONE);
            due("without HOLES", Bounds.of(2, 1, 7, 8).sure(0, 2, 10, 0, 0), NONE);
        });
        test("promise 29, x: WIDE and -1 are NONE", () ->
            Bounds.noneBeyond("sure: x", HOLED, 0, 2, (x, v) -> x.sure(0, 3, 30, v, 0)));
        test("promise 29, y: TALL and -1 are NONE", () ->
            Bounds.noneBeyond("sure: y", HOLED, 0, 0, (x, v) -> x.sure(0, 3, 30, 0, v)));
        test("promise 29, PARTS: 2 and 4 are taken, 1 and 5 are NONE", () -> {
            Bounds.Act setup = HOLED.then(x -> x.paint(0, 2, 0, 0));
            due("2", Bounds.made(setup).sure(0, 2, 30, 0, 0), 0);
            due("4", Bounds.made(setup).sure(0, 4, 30, 0, 0), 0);
            Bounds.noneBeyond("sure: PARTS", setup, 2, 4, (x, v) -> x.sure(0, v, 30, 0, 0));
        });
        test("promise 29, sum: 0 and 9999 are taken, -1 and 10000 are NONE", () -> {
            SymmetryTax x = Bounds.of(2, 1, 1, 1);
            x.hole(0, 0, 0, 1);
            Bounds.law(x, "spares if parts=1");
            x.force(0);
            due("0", x.sure(0, 2, 0, 0, 0), 1);
            due("9999", x.sure(0, 2, 9999, 0, 0), NONE);
            Bounds.noneBeyond("sure: sum", HOLED, 0, 9999, (y, v) -> y.sure(0, 3, v, 0, 0));
        });
        test("promise 29, THING: the next and -1 are NONE", () -> {
            Bounds.noneBeyond("sure: THING", HOLED, 0, 0, (x, v) -> x.sure(v, 3, 30, 0, 0));
            Bounds.unchanged("no THINGS", EMPTY, x -> x.sure(0, 2, 0, 0, 0), NONE);
        });
        test("promise 29, THING: each has its own HOLES and CELLS", () -> {
            SymmetryTax x = Bounds.made(HOLED);
            Bounds.add(x, 2, 2, 0, 1, 1, 3, 3);
            x.hole(1, 1, 1, 1);
            Bounds.add(x, 1, 3, 0, 1, 1, 1);
            x.hole(2, 0, 2, 1);
            for (int n = 0; n < 2; n++) {
                due("0", x.sure(0, 4, 30, 0, 0), 2);
                due("1", x.sure(1, 4, 10, 1, 1), NONE);
                due("1", x.sure(1, 4, 10, 0, 0), NONE);
                due("2", x.sure(2, 4, 30, 0, 2), 1);
                due("2, no HOLE", x.sure(2, 4, 30, 0, 0), NONE);
                due("0, no CELL", x.sure(0, 4, 30, 0, 2), NONE);
            }
            due("1, three PARTS", x.sure(1, 3, 10, 1, 1), 1);
            x.paint(1, 0, 0, 3);
            // 3 1 above 3 and a HOLE: LIKENESS 1 by 1, LIKENESS 4 by 3
            due("1, three PARTS", x.sure(1, 3, 10, 1, 1), 1);
            due("1, four PARTS", x.sure(1, 4, 10, 1, 1), NONE);
        });
        test("promise 29, full: each of six HOLES", () -> {
            int[] parts = {0, 0, 0, 1, 2, 3, 3, 2, 1, 0, 1, 2};
            SymmetryTax x = Bounds.of(6, 2, parts);
            for (int c = 0; c < 6; c++) {
                x.hole(0, c, 0, 1);
            }
            // the other row is 3 2 1 0 1 2: alike by LIKENESS 1 alone
            Bounds.law(x, "tax 0;tax 7 if like=1");
            x.force(0);
            for (int c = 0; c < 6; c++) {
                due("hole " + c, x.sure(0, 4, 7, c, 0), parts[6 + c]);
            }
        });
    }

    // ---- promise 24, 28, 29, 31 to 33: searches behind any change ----

    private static Bounds.Act drawnChange(Random draw) {
        int a = draw.nextInt(3);
        int b = draw.nextInt(3);
        int c = draw.nextInt(2);
        int d = draw.nextInt(4);
        switch (draw.nextInt(12)) {
            case 0: case 1: return x -> x.paint(a, b, c, d);
            case 10: return x -> x.thing(a + 1, 2, c);
            case 2: return x -> x.hole(a, b, c, d % 2);
            case 3: return x -> x.terms(d, a + 1);
            case 4: return x -> x.force(a - 1);
            case 5: return x -> x.place(a, b + d);
            case 6: return x -> x.place(a, NONE);
            case 7: return x -> Bounds.row(x, a, b, c, d);
            case 8: return x -> x.image(c);
            case 9: return x -> x.back(c);
            default: return x -> Bounds.law(x, "tax " + d + ";spares if parts>" + (a + 1));
        }
    }

    private static Bounds.Ask drawnSearch(Random draw) {
        int a = draw.nextInt(3);
        int b = draw.nextInt(3);
        int c = draw.nextInt(5);
        int[] sums = {0, 1, 2, 3, 4, 6, 10, 20, 30};
        int sum = sums[draw.nextInt(sums.length)];
        switch (draw.nextInt(6)) {
            case 0: return x -> x.free(a, b, c);
            case 1: return x -> x.fills(a, b + 2, sum);
            case 2: return x -> x.sure(a, b + 2, sum, c % 3, c / 3);
            case 3: return x -> x.street(c % 2);
            case 4: return x -> x.best(c % 2);
            default: return x -> x.bestAt(c);
        }
    }

    /** A search on an object that was asked before answers as one on an object that was never asked. */
    private static void askedAnew(int seed) {
        Random draw = new Random(seed);
        // every other one begins with next to nothing, so that the first changes are searched behind, too
        Bounds.Act acts = seed % 2 == 0 ? x -> x.thing(3, 2, 0) : x -> {
            Bounds.add(x, 3, 2, 0, 1, 2, 1, 0, 0, 0);
            Bounds.add(x, 2, 2, 1, 1, 0, 0, 1);
            Bounds.add(x, 3, 2, 2, 1, 2, 1, 0, 0, 0);
            x.hole(0, 0, 0, 1);
            x.hole(1, 1, 1, 1);
            Bounds.law(x, "tax 1;spares if parts>2");
        };
        SymmetryTax lives = Bounds.made(acts);
        for (int step = 0; step < 30; step++) {
            Bounds.Act change = drawnChange(draw);
            change.on(lives);
            acts = acts.then(change);
            for (int n = 0; n < 6; n++) {
                Bounds.Ask ask = drawnSearch(draw);
                int want = ask.of(Bounds.made(acts));
                due("seed " + seed + ", step " + step, ask.of(lives), want);
                due("seed " + seed + ", step " + step + ", again", ask.of(lives), want);
            }
        }
    }

    private static void searches() {
        test("promises 24, 28, 29, 31, 32, 33: asked anew behind any change, whatever was asked ahead", () -> {
            for (int seed = 0; seed < 200; seed++) {
                askedAnew(seed);
            }
        });
    }

    // ---- promise 30 to 33 ----

    private static void place() {
        test("promise 30: it answers where it stood, NONE for none", () -> {
            SymmetryTax x = Bounds.of(1, 1);
            due("none", x.place(0, 0), NONE);
            due("status()", x.status(), 0);
            due("0", x.place(0, 9), 0);
            due("9", x.place(0, NONE), 9);
            due("none", x.place(0, NONE), NONE);
            due("status()", x.status(), 0);
            due("none", x.fact(0, 5), NONE);
        });
        test("promise 30, PLACE: NONE, 0 and 9 are taken, -2 and 10 are REFUSED by -1", () ->
            Bounds.refusedBeyond("place", RICH, NONE, 9, -1, (x, v) -> x.place(0, v)));
        test("promise 30, THING: the last is put, the next and -1 are REFUSED by -2", () -> {
            due("the last", rich().place(2, 9), 6);
            Bounds.refusedBeyond("place: THING", RICH, 0, 2, -2, (x, v) -> x.place(v, 9));
            Bounds.refusedBeyond("place: THING, in none", RICH, 0, 2, -2, (x, v) -> x.place(v, NONE));
            Bounds.refused("place, no THINGS", EMPTY, x -> x.place(0, 0), -2);
        });
        test("promise 30: where another one stands is REFUSED by -3", () -> {
            Bounds.refused("place(0, 6)", RICH, x -> x.place(0, 6), -3);
            Bounds.refused("place(0, 0)", RICH, x -> x.place(0, 0), -3);
            Bounds.refused("place(2, 4)", RICH, x -> x.place(2, 4), -3);
        });
        test("promise 30: where it stands itself is taken", () ->
            Bounds.unchanged("place(0, 4)", RICH, x -> x.place(0, 4), 4));
        test("promise 30: many stand in none", () -> {
            SymmetryTax x = rich();
            due("one", x.place(0, NONE), 4);
            due("another", x.place(1, NONE), 0);
            due("a third", x.place(2, NONE), 6);
            due("count(2)", x.count(2), 0);
        });
        test("promise 30: where one stood before is free", () -> {
            SymmetryTax x = rich();
            due("away", x.place(0, 5), 4);
            due("there", x.place(2, 4), 6);
            due("status()", x.status(), 0);
        });
        test("promise 30: -1 is ahead of -2, -2 is ahead of -3", () -> {
            Bounds.refused("place(3, 10)", RICH, x -> x.place(3, 10), -1);
            Bounds.refused("place(-1, -2)", RICH, x -> x.place(-1, -2), -1);
            Bounds.refused("place(3, 4)", RICH, x -> x.place(3, 4), -2);
        });
        test("promise 30, full: six THINGS in the last PLACES", () -> {
            SymmetryTax x = new SymmetryTax();
            for (int t = 0; t < 6; t++) {
                x.thing(1, 1, 0);
                due("place", x.place(t, 9 - t), NONE);
            }
            due("count(2)", x.count(2), 6);
            due("place(5, 9)", x.place(5, 9), -3);
        });
    }

    /** Twins in two places. */
    private static SymmetryTax twins(int one, int other) {
        SymmetryTax x = Bounds.of(2, 1, 1, 2);
        Bounds.add(x, 2, 1, 0, 2, 1);
        x.place(0, one);
        x.place(1, other);
        return x;
    }

    private static void street() {
        test("promise 31, what: 0 and 1 are told, -1 and 2 are NONE", () -> {
            due("0", rich().street(0), 50);
            due("1", rich().street(1), 1);
            Bounds.noneBeyond("street", RICH, 0, 1, (x, v) -> x.street(v));
            Bounds.noneBeyond("street", EMPTY, 0, 1, (x, v) -> x.street(v));
        });
        test("promise 31, empty: 0", () -> {
            due("no THINGS", new SymmetryTax().street(0), 0);
            due("no THINGS", new SymmetryTax().street(1), 0);
            SymmetryTax x = twins(NONE, NONE);
            due("in none", x.street(1), 0);
            x.place(0, 0);
            due("one alone", x.street(1), 0);
        });
        test("promise 31, NEAR: as far apart is a pair, one more is none", () -> {
            for (int near = 1; near < 10; near++) {
                for (int apart = 1; apart < 10; apart++) {
                    SymmetryTax x = twins(0, apart);
                    x.terms(2, near);
                    due(apart + " apart by " + near, x.street(1), apart <= near ? 1 : 0);
                    x = twins(9, 9 - apart);
                    x.terms(2, near);
                    due(apart + " apart by " + near, x.street(1), apart <= near ? 1 : 0);
                }
            }
        });
        test("promise 31, TWIN: 0 and 999", () -> {
            SymmetryTax x = twins(0, 1);
            due("5 at first", x.street(0), 5);
            x.terms(3, 0);
            due("0", x.street(0), 0);
            due("a pair all the same", x.street(1), 1);
            x.terms(3, 999);
            due("999", x.street(0), 999);
        });
        test("promise 31, full: six are fifteen pairs at most", () -> {
            SymmetryTax x = new SymmetryTax();
            for (int t = 0; t < 6; t++) {
                x.thing(1, 1, 0);
                x.place(t, t < 3 ? t : t + 4);
            }
            due("one apart", x.street(1), 4);
            x.terms(2, 8);
            due("all but the farthest", x.street(1), 14);
            x.terms(2, 9);
            x.terms(3, 999);
            due("all", x.street(1), 15);
            due("all", x.street(0), 14985);
        });
        test("promise 31: alike ones are TWINS only if they are mirrored so", () -> {
            SymmetryTax x = Bounds.of(2, 1, 1, 2);
            Bounds.add(x, 2, 1, 0, 1, 2);
            x.place(0, 0);
            x.place(1, 1);
            due("alike", x.street(1), 0);
        });
    }

    private static void best() {
        test("promise 32, what: 0 and 1 are told, -1 and 2 are NONE", () -> {
            Bounds.noneBeyond("best", RICH, 0, 1, (x, v) -> x.best(v));
            Bounds.noneBeyond("best", EMPTY, 0, 1, (x, v) -> x.best(v));
        });
        test("promise 32, empty: nothing is owed, in one row", () -> {
            due("no THINGS", new SymmetryTax().best(0), 0);
            due("no THINGS", new SymmetryTax().best(1), 1);
            SymmetryTax x = twins(NONE, NONE);
            due("in none", x.best(0), 0);
            due("in none", x.best(1), 1);
        });
        test("promise 32: one THING alone is one row", () -> {
            SymmetryTax x = twins(7, NONE);
            due("best(0)", x.best(0), 0);
            due("best(1)", x.best(1), 1);
        });
        test("promise 32: two are two rows, alike ones too", () -> {
            SymmetryTax x = twins(0, 1);
            due("best(0)", x.best(0), 5);
            due("best(1)", x.best(1), 2);
        });
        test("promise 32, full: six THINGS in 720 rows", () -> {
            SymmetryTax x = new SymmetryTax();
            for (int t = 0; t < 6; t++) {
                x.thing(1, 1, 0);
                x.place(t, t);
            }
            due("best(0)", x.best(0), 25);
            due("best(1)", x.best(1), 720);
        });
        test("promise 32: those that stand in none are not put", () -> {
            SymmetryTax x = twins(0, 1);
            Bounds.add(x, 2, 1, 0, 5, 6);
            due("best(0)", x.best(0), 5);
            due("bestAt(0)", x.bestAt(0), 0);
        });
        test("promise 32: one that leaves the STREET is put no more, whichever of six", () -> {
            for (int gone = 0; gone < 6; gone++) {
                SymmetryTax x = new SymmetryTax();
                for (int t = 0; t < 6; t++) {
                    x.thing(1, 1, 0);
                    x.place(t, t + 3);
                }
                due("all six", x.best(1), 720);
                x.place(gone, NONE);
                due("five", x.best(1), 120);
                for (int place = 3; place < 9; place++) {
                    int seat = place - 3 - (place - 3 > gone ? 1 : 0);
                    int want = place - 3 == gone ? NONE : seat + (seat >= gone ? 1 : 0);
                    due("bestAt(" + place + ")", x.bestAt(place), want);
                }
            }
        });
        test("promise 32: it is on paper", () -> {
            SymmetryTax x = rich();
            Bounds.unchanged("best(1)", RICH, y -> y.best(1), x.best(1));
        });
    }

    private static void bestAt() {
        test("promise 33, PLACE: 0 and 9 are told, -1 and 10 are NONE", () -> {
            SymmetryTax x = twins(9, 0);
            due("0", x.bestAt(0), 0);
            due("9", x.bestAt(9), 1);
            Bounds.noneBeyond("bestAt", RICH, 0, 9, (y, v) -> y.bestAt(v));
        });
        test("promise 33, empty: a PLACE where none stands is NONE", () -> {
            Bounds.unchanged("bestAt(1)", RICH, x -> x.bestAt(1), NONE);
            for (int place = 0; place < 10; place++) {
                due("no THINGS", new SymmetryTax().bestAt(place), NONE);
            }
        });
        test("promise 33: of alike good rows the first", () -> {
            // 0 and 2 are TWINS of 1; 1 goes to an end, and the first row has 0 ahead
            SymmetryTax x = twins(0, 1);
            Bounds.add(x, 2, 1, 0, 1, 2);
            x.place(2, 2);
            int[] first = {0, 2, 1};
            for (int place = 0; place < 3; place++) {
                due("bestAt(" + place + ")", x.bestAt(place), first[place]);
            }
            due("it OWES", x.best(0), 5);
            due("rows", x.best(1), 4);
        });
        test("promise 33: it is asked anew when something changed", () -> {
            SymmetryTax x = twins(9, 0);
            due("bestAt(9)", x.bestAt(9), 1);
            x.place(1, 5);
            due("bestAt(0)", x.bestAt(0), NONE);
            due("bestAt(5)", x.bestAt(5), 0);
            x.place(0, NONE);
            due("bestAt(9)", x.bestAt(9), NONE);
            due("bestAt(5)", x.bestAt(5), 1);
        });
    }

    // ---- promise 34 ----

    private static void ruler() {
        noneAsForOff("promise 34", (x, t, like) -> x.ruler(t, like, 1));
        test("promise 34, r: 1 and 8 are taken, 0 and 9 are NONE", () -> {
            SymmetryTax x = quarters();
            due("1", x.ruler(0, 0, 1), 64);
            due("8", x.ruler(0, 0, 8), 0);
            Bounds.noneBeyond("ruler: r", RICH, 1, 8, (y, v) -> y.ruler(0, 0, v));
        });
        test("promise 34, r 1: as OFF", () -> {
            SymmetryTax x = rich();
            for (int like = 0; like < 6; like++) {
                due("ruler", x.ruler(1, like, 1), x.off(1, like));
            }
        });
        test("promise 34: a RULER as long as both sides sees one SQUARE, one less sees more", () -> {
            SymmetryTax x = quarters();
            due("8", x.ruler(0, 5, 8), 0);
            due("7", x.ruler(0, 0, 7), 4);
            due("4", x.ruler(0, 0, 4), 4);
            due("longer than the sides", Bounds.of(3, 2, 1, 2, 3, 4, 5, 6).ruler(0, 2, 8), 0);
            due("as long as one side", Bounds.of(3, 2).ruler(0, 0, 2), 2);
            due("as long as both", Bounds.of(3, 2).ruler(0, 0, 3), 0);
        });
        test("promise 34: less at the far sides", () -> {
            // 7 by 7, 1 by 7, 7 by 1 and 1 by 1 of one PART
            SymmetryTax x = Bounds.of(8, 8);
            int[] off = {4, 4, 2, 0, 2, 4};
            for (int like = 0; like < 6; like++) {
                due("ruler(0, " + like + ", 7)", x.ruler(0, like, 7), off[like]);
            }
        });
        test("promise 34: SQUARES are alike by as many of each PART, however they lie", () -> {
            due("as many", Bounds.of(4, 2, 1, 2, 0, 2, 0, 0, 1, 0).ruler(0, 0, 2), 0);
            due("one more", Bounds.of(4, 2, 1, 2, 0, 2, 0, 0, 1, 1).ruler(0, 0, 2), 2);
            due("the highest PART", Bounds.of(4, 2, 9, 0, 0, 0, 0, 0, 0, 0).ruler(0, 0, 2), 2);
        });
        test("promise 34: one SQUARE of a THING that is not square has no 3 to 5", () -> {
            SymmetryTax x = Bounds.of(3, 2);
            for (int like = 3; like < 6; like++) {
                due("ruler(0, " + like + ", 8)", x.ruler(0, like, 8), NONE);
            }
        });
        test("promise 34, THING: the last is measured", () -> due("ruler", rich().ruler(2, 0, 1), 4));
    }

    // ---- promise 35, 36 ----

    private static void daub() {
        test("promise 35, SEED: 0 and 1000000 are taken, -1 and 1000001 are REFUSED by -1", () -> {
            // DRAWS of 2 and 10: 12345 (CELL 1), 628841 (PART 1); 9036 (CELL 0), 979026 (PART 6)
            Bounds.Act setup = x -> {
                Bounds.add(x, 2, 1, 0, 1, 0);
            };
            due("0", Bounds.made(setup).daub(0, 1), 30);
            due("1000000", Bounds.made(setup).daub(1_000_000, 1), 10);
            due("status()", Bounds.made(setup).status(), 0);
            Bounds.refusedBeyond("daub: SEED", RICH, 0, 1_000_000, -1, (x, v) -> x.daub(v, 1));
        });
        test("promise 35, days: 1 and 40 are taken, 0 and 41 are REFUSED by -1", () -> {
            SymmetryTax x = Bounds.of(1, 1);
            due("1", x.daub(5, 1), 60);
            due("40", x.daub(5, 40), 2400);
            due("status()", x.status(), 0);
            Bounds.refusedBeyond("daub: days", RICH, 1, 40, -1, (y, v) -> y.daub(0, v));
        });
        test("promise 35, empty: no THINGS OWE 0", () -> {
            SymmetryTax x = new SymmetryTax();
            due("daub", x.daub(0, 40), 0);
            due("the last day", x.daubed(39), 0);
            due("beyond it", x.daubed(40), NONE);
        });
        test("promise 35: a REFUSED one leaves the latest", () -> {
            SymmetryTax x = Bounds.of(1, 1);
            x.daub(5, 2);
            due("41 days", x.daub(5, 41), -1);
            due("SEED -1", x.daub(-1, 1), -1);
            due("daubed(1)", x.daubed(1), 60);
            due("daubed(2)", x.daubed(2), NONE);
        });
        test("promise 35: it is on paper", () -> {
            SymmetryTax x = rich();
            Bounds.unchangedBut("daub(9, 40)", RICH, y -> y.daub(9, 40), x.daub(9, 40), "daubed");
        });
        test("promise 35: what is daubed on one day stays for the next", () -> {
            // 12345 (CELL 1), 628841 (PART 1), 621889 (CELL 1), 953857 (PART 7)
            SymmetryTax x = Bounds.of(2, 1, 7, 0);
            due("two days", x.daub(0, 2), 40);
            due("unlike", x.daubed(0), 10);
            due("alike", x.daubed(1), 30);
            x.paint(0, 0, 0, 1);
            x.daub(0, 2);
            due("alike", x.daubed(0), 30);
            due("unlike", x.daubed(1), 10);
        });
        test("promise 35: the sum of all days", () -> {
            SymmetryTax x = Bounds.made(SIX_THINGS);
            int sum = x.daub(123_456, 40);
            for (int i = 0; i < 40; i++) {
                sum -= x.daubed(i);
            }
            due("what is left", sum, 0);
        });
        test("promise 35, full: six THINGS by 999 on 40 days", () -> {
            SymmetryTax x = new SymmetryTax();
            for (int t = 0; t < 6; t++) {
                x.thing(8, 8, 0);
            }
            x.terms(0, 64);
            Bounds.law(x, "tax 999");
            x.force(0);
            due("daub", x.daub(1, 40), 35964 * 40);
            due("daubed", x.daubed(39), 35964);
        });
    }

    private static void daubed() {
        test("promise 36: NONE ahead of any DAUBING", () -> {
            due("0", new SymmetryTax().daubed(0), NONE);
            due("-1", new SymmetryTax().daubed(-1), NONE);
        });
        test("promise 36: NONE ahead of any DAUBING that was not REFUSED", () -> {
            SymmetryTax x = Bounds.of(1, 1);
            x.daub(0, 0);
            x.daub(-1, 5);
            due("0", x.daubed(0), NONE);
        });
        test("promise 36, day: 0 and the last are told, -1 and the next are NONE", () -> {
            SymmetryTax x = rich();
            due("0", x.daubed(0) == NONE ? 1 : 0, 0);
            due("the last", x.daubed(2) == NONE ? 1 : 0, 0);
            Bounds.noneBeyond("daubed", RICH, 0, 2, (y, v) -> y.daubed(v));
            Bounds.noneBeyond("daubed, 40", RICH.then(y -> y.daub(0, 40)), 0, 39, (y, v) -> y.daubed(v));
            Bounds.noneBeyond("daubed, 1", RICH.then(y -> y.daub(0, 1)), 0, 0, (y, v) -> y.daubed(v));
        });
        test("promise 36: the latest DAUBING, though it is shorter", () -> {
            SymmetryTax x = Bounds.of(1, 1);
            x.daub(5, 3);
            due("three days", x.daubed(2), 60);
            x.daub(5, 1);
            due("one day", x.daubed(0), 60);
            due("one day", x.daubed(1), NONE);
        });
        test("promise 36: it stays as it was, whatever becomes of the THINGS", () -> {
            SymmetryTax x = Bounds.of(1, 1);
            x.daub(5, 1);
            x.thing(1, 1, 0);
            Bounds.law(x, "tax 1");
            x.force(0);
            due("daubed(0)", x.daubed(0), 60);
        });
    }

    // ---- promise 37, 38 ----

    private static void image() {
        test("promise 37, k: 0 and 1 are kept, -1 and 2 are REFUSED by -1", () -> {
            due("0", rich().image(0), 0);
            due("1", rich().image(1), 0);
            Bounds.refusedBeyond("image", RICH, 0, 1, -1, (x, v) -> x.image(v));
        });
        test("promise 37, empty: a new object can be kept", () -> {
            SymmetryTax x = new SymmetryTax();
            due("image(1)", x.image(1), 0);
            x.thing(1, 1, 0);
            due("back(1)", x.back(1), 0);
            due("count(0)", x.count(0), 0);
        });
        test("promise 37: nothing changes by it but the IMAGE", () -> {
            Bounds.unchangedBut("image(0)", RICH, x -> x.image(0), 0, "behind back(0)");
            Bounds.unchangedBut("image(1)", RICH, x -> x.image(1), 0, "behind back(1)");
        });
        test("promise 37: a later one takes the place of the one that was kept", () -> {
            SymmetryTax x = new SymmetryTax();
            x.image(0);
            x.thing(1, 1, 0);
            x.image(0);
            x.thing(1, 1, 0);
            x.back(0);
            due("count(0)", x.count(0), 1);
        });
        test("promise 37: both are kept apart", () -> {
            SymmetryTax x = new SymmetryTax();
            x.image(0);
            x.thing(1, 1, 0);
            x.image(1);
            x.back(0);
            due("back(0)", x.count(0), 0);
            x.back(1);
            due("back(1)", x.count(0), 1);
        });
    }

    private static void back() {
        test("promise 38, k: 0 and 1 are gone back to, -1 and 2 are REFUSED by -1", () -> {
            Bounds.Act both = RICH.then(x -> x.image(1));
            due("0", Bounds.made(both).back(0), 0);
            due("1", Bounds.made(both).back(1), 0);
            Bounds.refusedBeyond("back", both, 0, 1, -1, (x, v) -> x.back(v));
        });
        test("promise 38: one that was not kept is REFUSED by -2", () -> {
            Bounds.refused("back(1)", RICH, x -> x.back(1), -2);
            Bounds.refused("back(0)", EMPTY, x -> x.back(0), -2);
            Bounds.refused("back(0)", EMPTY.then(x -> x.image(1)), x -> x.back(0), -2);
        });
        test("promise 38: -1 is ahead of -2", () -> Bounds.refusedBeyond("back", EMPTY, 0, 1, -1, (x, v) -> x.back(v)));
        test("promise 38: all that it keeps is as it was then", () -> {
            Bounds.Act kept = RICH.then(x -> x.image(1));
            Bounds.unchanged("back(1)", kept, x -> x.back(1), 0);
            Bounds.Act changed = kept.then(x -> {
                x.end(0);
                Bounds.row(x, 0, 5, 5, 5, 5, 5, 5, 7, 7);
                x.hole(0, 1, 0, 0);
                x.hole(2, 0, 0, 1);
                x.place(0, 9);
                x.place(2, NONE);
                x.thing(8, 8, 4);
                x.place(3, 6);
                Bounds.law(x, "spares");
                x.force(2);
                for (int what = 0; what < 4; what++) {
                    x.terms(what, 9);
                }
                Bounds.law(x, "tax ?");
                Bounds.tape(x, 1, 7, 8, 7);
            });
            Bounds.due("the same", Bounds.made(changed.then(x -> x.back(1))).count(0), 3);
            Bounds.alike("back(1)", kept, changed.then(x -> x.back(1)), "count(8)", "flakes()");
        });
        test("promise 38: WIDE, TALL and OWNER of a number come back", () -> {
            SymmetryTax x = new SymmetryTax();
            x.image(0);
            Bounds.add(x, 2, 1, 3, 1, 2);
            x.image(1);
            x.back(0);
            Bounds.add(x, 5, 4, 1, 3, 4, 5, 6, 7, 8, 9);
            due("off", x.off(0, 0), 8);
            x.back(1);
            due("WIDE", x.fact(0, 0), 2);
            due("TALL", x.fact(0, 1), 1);
            due("OWNER", x.fact(0, 2), 3);
            due("off", x.off(0, 0), 2);
            due("owner(3)", x.owner(3), 10);
        });
        test("promise 38: a THING of other sides by the same number has nothing of the one that was", () -> {
            int[][] sides = {{3, 3}, {3, 2}, {2, 3}, {2, 2}, {8, 8}, {1, 1}};
            for (int[] was : sides) {
                for (int[] is : sides) {
                    Bounds.Act fresh = x -> {
                        x.image(0);
                        Bounds.add(x, is[0], is[1], 2, 1, 2, 2, 1, 3);
                    };
                    Bounds.Act again = x -> {
                        x.image(0);
                        Bounds.add(x, was[0], was[1], 4, 5, 5, 6, 7, 8, 9);
                        x.owes(NONE);
                        x.off(0, 0);
                        x.place(0, 1);
                        x.best(0);
                        x.back(0);
                        Bounds.add(x, is[0], is[1], 2, 1, 2, 2, 1, 3);
                    };
                    Bounds.alike(is[0] + " by " + is[1], fresh, again);
                }
            }
        });
        test("promise 38: it keeps not the TAPE", () -> {
            SymmetryTax x = rich();
            x.image(1);
            x.feed(0, 0, 0, 0, 0);
            x.back(1);
            due("count(3)", x.count(3), 24);
            x.end(0);
            x.back(1);
            due("count(3)", x.count(3), 0);
        });
        test("promise 38: it keeps not FAULT", () -> {
            SymmetryTax x = new SymmetryTax();
            x.image(0);
            Bounds.law(x, "tax !");
            x.image(1);
            x.back(0);
            due("fault()", x.fault(), 4);
            Bounds.law(x, "tax 1");
            x.back(1);
            due("fault()", x.fault(), NONE);
        });
        test("promise 38: it keeps not FLAKES", () -> {
            SymmetryTax x = Bounds.of(1, 1);
            x.image(0);
            Bounds.row(x, 0, 1, 1, 1);
            x.back(0);
            due("flakes()", x.flakes(), 2);
        });
        test("promise 38: it keeps not the latest DAUBING", () -> {
            SymmetryTax x = Bounds.of(1, 1);
            x.daub(0, 2);
            x.image(0);
            x.daub(0, 1);
            x.back(0);
            due("daubed(0)", x.daubed(0), 60);
            due("daubed(1)", x.daubed(1), NONE);
        });
        test("promise 38: IMAGES stay, though it is gone back to them and on", () -> {
            SymmetryTax x = Bounds.of(2, 1, 3, 4);
            x.image(0);
            for (int n = 0; n < 3; n++) {
                x.paint(0, 0, 0, 9);
                x.hole(0, 0, 0, 1);
                x.place(0, 2);
                x.terms(0, 7);
                Bounds.law(x, "tax 1");
                x.force(0);
                x.thing(1, 1, 0);
                due("back(0)", x.back(0), 0);
                due("of", x.of(0, 0, 0), 3);
                due("HOLES", x.fact(0, 4), 0);
                due("PLACE", x.fact(0, 5), NONE);
                due("SLACK", x.count(10), 0);
                due("LAWS", x.count(1), 0);
                due("FORCE", x.count(9), NONE);
                due("THINGS", x.count(0), 1);
            }
        });
        test("promise 38: an IMAGE of what was before another one stays behind back", () -> {
            SymmetryTax x = new SymmetryTax();
            x.image(0);
            x.thing(1, 1, 0);
            x.image(1);
            x.back(0);
            due("back(1)", x.back(1), 0);
            due("count(0)", x.count(0), 1);
        });
        test("promise 38: a LAW that is read behind back does not become one of the IMAGE", () -> {
            SymmetryTax x = Bounds.of(1, 1);
            x.image(0);
            Bounds.law(x, "tax 1");
            x.force(0);
            x.image(1);
            x.back(0);
            due("number", Bounds.law(x, "tax 2"), 0);
            x.force(0);
            due("tax", x.tax(0, 0), 2);
            x.back(1);
            due("tax of then", x.tax(0, 0), 1);
        });
    }

    // ---- promise 39, 40 ----

    private static void count() {
        test("promise 39, what: 0 and 13 are told, -1 and 14 are NONE", () -> {
            int[] all = {3, 2, 3, 4, 0, 1, 0, 0, 1, 1, 2, 7, 3, 50};
            SymmetryTax x = rich();
            for (int what = 0; what < 14; what++) {
                due("count(" + what + ")", x.count(what), all[what]);
            }
            Bounds.noneBeyond("count", RICH, 0, 13, (y, v) -> y.count(v));
        });
        test("promise 39, empty: a new object", () -> {
            int[] all = {0, 0, 0, 0, 0, 0, 0, 0, 0, NONE, 0, 0, 1, 5};
            SymmetryTax x = new SymmetryTax();
            for (int what = 0; what < 14; what++) {
                due("count(" + what + ")", x.count(what), all[what]);
            }
        });
        test("promise 39, full: 6 THINGS, 6 LAWS, 6 in the STREET, 400 bytes", () -> {
            SymmetryTax x = Bounds.made(SIX_THINGS);
            x.place(3, 1);
            x.place(4, 2);
            x.place(5, 9);
            x.end(0);
            for (int l = 2; l < 6; l++) {
                Bounds.law(x, "spares");
            }
            Bounds.tape(x, new int[400]);
            due("THINGS", x.count(0), 6);
            due("LAWS", x.count(1), 6);
            due("STREET", x.count(2), 6);
            due("bytes", x.count(3), 400);
        });
        test("promise 39: each REFUSED call is counted by its number", () -> {
            SymmetryTax x = Bounds.made(SIX_THINGS);
            for (int n = 1; n <= 5; n++) {
                x.terms(4, 0);
                x.force(9);
                x.place(0, 0);
                x.thing(1, 1, 0);
                x.end(0);
                x.row();
                due("-1", x.count(4), n);
                due("-2", x.count(5), n + 1);
                due("-3", x.count(6), n);
                due("-5", x.count(7), n);
                due("-6", x.count(8), n + 1);
            }
        });
        test("promise 39: NONE of a question is not REFUSED", () -> {
            SymmetryTax x = new SymmetryTax();
            x.fact(0, 0);
            x.of(0, 0, 0);
            x.end(1);
            x.off(0, 0);
            x.owes(0);
            x.owner(6);
            x.free(0, 0, 0);
            x.daubed(0);
            x.bestAt(0);
            x.count(14);
            for (int what = 4; what < 9; what++) {
                due("count(" + what + ")", x.count(what), 0);
            }
        });
        test("promise 39: IMAGES do not keep what was REFUSED", () -> {
            SymmetryTax x = new SymmetryTax();
            x.terms(4, 0);
            x.image(0);
            x.terms(4, 0);
            x.force(0);
            x.back(0);
            due("-1", x.count(4), 2);
            due("-2", x.count(5), 1);
        });
        test("promise 39: THINGS that stand in none are not in the STREET", () -> {
            SymmetryTax x = rich();
            x.place(1, NONE);
            due("count(2)", x.count(2), 2);
            due("count(0)", x.count(0), 3);
        });
    }

    private static void toldByStatus(String call, Bounds.Act setup, Bounds.Ask refused, int why, Bounds.Ask taken) {
        test("promise 40, " + call + ": what it was REFUSED by, 0 if it was not", () -> {
            SymmetryTax x = Bounds.made(setup);
            due("REFUSED", refused.of(x), why);
            due("status()", x.status(), why);
            due("status() again", x.status(), why);
            taken.of(x);
            due("status() behind one that was not", x.status(), 0);
        });
    }

    private static void status() {
        test("promise 40, empty: 0 ahead of any", () -> due("status()", new SymmetryTax().status(), 0));
        toldByStatus("thing", RICH, x -> x.thing(0, 1, 0), -1, x -> x.thing(1, 1, 0));
        toldByStatus("thing, full", SIX_THINGS, x -> x.thing(1, 1, 0), -5, x -> x.paint(0, 0, 0, 0));
        toldByStatus("paint", RICH, x -> x.paint(0, 0, 0, 10), -1, x -> x.paint(0, 0, 0, 0));
        toldByStatus("paint, no THING", RICH, x -> x.paint(3, 0, 0, 0), -2, x -> x.paint(0, 0, 0, 0));
        toldByStatus("hole", RICH, x -> x.hole(0, 0, 0, 2), -1, x -> x.hole(0, 0, 0, 0));
        toldByStatus("hole, full", PromiseBoundaryTest::sixHoles, x -> x.hole(3, 6, 0, 1), -5, x -> x.hole(3, 5, 0, 1));
        toldByStatus("terms", RICH, x -> x.terms(0, 65), -1, x -> x.terms(0, 64));
        toldByStatus("row", RICH.then(x -> x.end(0)), x -> x.row(), -6, x -> Bounds.row(x, 0));
        toldByStatus("law", RICH, x -> x.law(), -6, x -> Bounds.law(x, "spares"));
        toldByStatus("law, full", SIX_LAWS, x -> x.law(), -5, x -> x.force(5));
        toldByStatus("force", RICH, x -> x.force(2), -2, x -> x.force(NONE));
        toldByStatus("place", RICH, x -> x.place(0, 10), -1, x -> x.place(0, NONE));
        toldByStatus("place, another one", RICH, x -> x.place(0, 6), -3, x -> x.place(0, 7));
        toldByStatus("daub", RICH, x -> x.daub(0, 41), -1, x -> x.daub(0, 40));
        toldByStatus("image", RICH, x -> x.image(2), -1, x -> x.image(1));
        toldByStatus("back", RICH, x -> x.back(1), -2, x -> x.back(0));
        toldByStatus("back, no number", RICH, x -> x.back(2), -1, x -> x.back(0));
        test("promise 40: the calls that are not named leave it as it was", () -> {
            for (Bounds.Ask ask : questions()) {
                leavesStatus(ask);
            }
            leavesStatus(x -> x.feed(0, 0, 0, 0, 0));
            leavesStatus(x -> x.end(0));
        });
        test("promise 40: questions leave all as it was", () -> {
            Bounds.Ask[] all = questions();
            for (int n = 0; n < all.length; n++) {
                Bounds.unchanged("question " + n, RICH, all[n], all[n].of(rich()));
            }
        });
    }

    private static void leavesStatus(Bounds.Ask ask) {
        SymmetryTax x = rich();
        x.place(0, 6);
        ask.of(x);
        due("status() behind -3", x.status(), -3);
        x = rich();
        ask.of(x);
        due("status() behind 0", x.status(), 0);
    }

    /** All calls that status does not name, each with an answer and with NONE; but those that change the tape. */
    private static Bounds.Ask[] questions() {
        return new Bounds.Ask[] {
            x -> x.fact(0, 0), x -> x.fact(9, 9), x -> x.of(0, 0, 0), x -> x.of(9, 9, 9),
            x -> x.end(401), x -> x.flakes(), x -> x.fault(), x -> x.off(0, 0), x -> x.off(9, 9),
            x -> x.has(0), x -> x.has(9), x -> x.tax(0, 0), x -> x.tax(9, 9), x -> x.owes(0), x -> x.owes(NONE),
            x -> x.owes(9), x -> x.owner(0), x -> x.owner(9), x -> x.brings(0), x -> x.brings(9), x -> x.dearest(),
            x -> x.quite(0, 0), x -> x.quite(9, 9), x -> x.quiteAt(0, 0, 0, 0), x -> x.quiteAt(9, 9, 9, 9),
            x -> x.free(0, 1, 0), x -> x.free(9, 9, 9), x -> x.form(0, 0, 0, 0), x -> x.form(9, 9, 9, 9),
            x -> x.order(0), x -> x.order(9), x -> x.forms(0, 0), x -> x.forms(9, 9), x -> x.fills(0, 2, 10),
            x -> x.fills(9, 9, 9), x -> x.sure(0, 2, 10, 1, 0), x -> x.sure(9, 9, 9, 9, 9), x -> x.street(0),
            x -> x.street(9), x -> x.best(0), x -> x.best(9), x -> x.bestAt(0), x -> x.bestAt(99), x -> x.ruler(0, 0, 1),
            x -> x.ruler(9, 9, 9), x -> x.daubed(0), x -> x.daubed(99), x -> x.count(0), x -> x.count(99), x -> x.status()};
    }

    public static void main(String[] args) {
        newObject();
        thing();
        fact();
        paint();
        of();
        hole();
        terms();
        feed();
        end();
        row();
        flakes();
        law();
        fault();
        force();
        off();
        has();
        tax();
        owes();
        owner();
        brings();
        dearest();
        quite();
        quiteAt();
        free();
        form();
        order();
        forms();
        fills();
        sure();
        searches();
        place();
        street();
        best();
        bestAt();
        ruler();
        daub();
        daubed();
        image();
        back();
        count();
        status();
        Bounds.finish();
    }
}
