import java.util.LinkedHashMap;
import java.util.List;
import java.util.Map;
import java.util.function.BiConsumer;

/** What the boundary tests share: tests by name, and all that an object tells, so that "nothing else changed" can be tested. */
final class Bounds {
    static final int NONE = SymmetryTax.NONE;
    private static final List<String> REASONS = List.of("-1", "-2", "-3", "-5", "-6");
    private static String name = "";
    private static int tests = 0;
    private static int wrongTests = 0;
    private static int wrong = 0;

    /** What is done to an object. */
    interface Act {
        void on(SymmetryTax x);

        default Act then(Act next) {
            return x -> {
                on(x);
                next.on(x);
            };
        }
    }

    /** A call with its answer. */
    interface Ask {
        int of(SymmetryTax x);
    }

    /** A call one of whose numbers is left open. */
    interface AskAt {
        int of(SymmetryTax x, int value);
    }

    /** Calls that an object is asked for what it tells; each goes with its name. */
    private interface View {
        void of(SymmetryTax x, BiConsumer<String, Integer> tell);
    }

    private Bounds() {
    }

    // ---- tests ----

    static void test(String named, Runnable body) {
        name = named;
        tests++;
        int before = wrong;
        try {
            body.run();
        } catch (RuntimeException e) {
            say("threw " + e);
        }
        if (wrong != before) {
            wrongTests++;
        }
    }

    static void due(String call, int got, int want) {
        if (got != want) {
            say(call + " answered " + got + ", due is " + want);
        }
    }

    private static void say(String what) {
        wrong++;
        System.out.println(name + ": " + what);
    }

    static void finish() {
        System.out.println(tests + " tests, " + wrongTests + " failed");
        if (wrongTests != 0) {
            System.exit(1);
        }
    }

    // ---- objects ----

    static SymmetryTax made(Act act) {
        SymmetryTax x = new SymmetryTax();
        act.on(x);
        return x;
    }

    /** The tape must be empty. */
    static void tape(SymmetryTax x, int... bytes) {
        for (int k = 0; k < bytes.length; k += 20) {
            int[] n = new int[5];
            for (int i = 0; i < 20; i++) {
                n[i / 4] = n[i / 4] << 8 | (k + i < bytes.length ? bytes[k + i] : 0);
            }
            x.feed(n[0], n[1], n[2], n[3], n[4]);
        }
        x.end(bytes.length);
    }

    static void text(SymmetryTax x, String text) {
        tape(x, text.chars().toArray());
    }

    static int law(SymmetryTax x, String text) {
        text(x, text);
        return x.law();
    }

    static int row(SymmetryTax x, int... bytes) {
        tape(x, bytes);
        return x.row();
    }

    /** A thing with its parts, row by row. */
    static int add(SymmetryTax x, int wide, int tall, int owner, int... parts) {
        int t = x.thing(wide, tall, owner);
        int[] bytes = new int[parts.length + 1];
        bytes[0] = t;
        System.arraycopy(parts, 0, bytes, 1, parts.length);
        if (parts.length > 0) {
            row(x, bytes);
        }
        return t;
    }

    static SymmetryTax of(int wide, int tall, int... parts) {
        return made(x -> add(x, wide, tall, 0, parts));
    }

    /** Something of all: three things, holes, places, two laws, terms, an image, flakes, a fault, refusals, a daubing, a tape. */
    static void rich(SymmetryTax x) {
        add(x, 3, 2, 1, 1, 2, 3, 0, 0, 9);
        add(x, 2, 2, 5, 1, 2, 2, 1, 9, 9, 9);
        x.hole(0, 1, 0, 1);
        x.hole(1, 0, 1, 1);
        x.place(0, 4);
        x.image(0);
        add(x, 3, 2, 0, 3, 2, 1, 9, 0, 0, 7, 7);
        x.hole(1, 1, 1, 1);
        x.place(2, 6);
        x.place(1, 0);
        law(x, "tax like+1");
        law(x, "tax off*10+day;spares if like=2");
        x.force(1);
        x.terms(0, 2);
        x.terms(1, 7);
        x.terms(2, 3);
        x.terms(3, 50);
        law(x, "tax !");
        x.paint(3, 0, 0, 0);
        x.daub(77, 3);
        tape(x, 1, 7, 8, 7);
    }

    // ---- all that an object tells ----

    /** Each view asks an object of its own: 512 calls are too few for all, and some views change what they ask. */
    static Map<String, Integer> told(Act made) {
        Map<String, Integer> all = new LinkedHashMap<>();
        for (int image = NONE; image < 2; image++) {
            int k = image;
            String head = k == NONE ? "" : "behind back(" + k + "): ";
            Act act = k == NONE ? made : made.then(x -> x.back(k));
            see(all, head, act, Bounds::seeCounts);
            see(all, head, act, Bounds::seeOwed);
            see(all, head, act, Bounds::seeLikenesses);
            see(all, head, act, Bounds::seeCells);
            see(all, head, act, Bounds::seeHoles);
        }
        see(all, "read as a row: ", made.then(SymmetryTax::row), Bounds::seeCells);
        see(all, "", made, (x, tell) -> tell.accept("row()", x.row()));
        see(all, "", made, (x, tell) -> tell.accept("law()", x.law()));
        see(all, "", made, (x, tell) -> tell.accept("status()", x.status()));
        return all;
    }

    private static void see(Map<String, Integer> all, String head, Act made, View view) {
        view.of(made(made), (call, answer) -> all.put(head + call, answer));
    }

    private static void seeCounts(SymmetryTax x, BiConsumer<String, Integer> tell) {
        tell.accept("fault()", x.fault());
        tell.accept("flakes()", x.flakes());
        for (int what = 0; what < 14; what++) {
            tell.accept("count(" + what + ")", x.count(what));
        }
        for (int i = 0; i < 40; i++) {
            tell.accept("daubed(" + i + ")", x.daubed(i));
        }
        for (int t = 0; t < 6; t++) {
            for (int what = 0; what < 6; what++) {
                tell.accept("fact(" + t + ", " + what + ")", x.fact(t, what));
            }
        }
    }

    private static void seeOwed(SymmetryTax x, BiConsumer<String, Integer> tell) {
        tell.accept("dearest()", x.dearest());
        for (int n = NONE; n < 6; n++) {
            tell.accept("owes(" + n + ")", x.owes(n));
            tell.accept("owner(" + n + ")", x.owner(n));
            tell.accept("brings(" + n + ")", x.brings(n));
        }
        for (int what = 0; what < 2; what++) {
            tell.accept("street(" + what + ")", x.street(what));
            tell.accept("best(" + what + ")", x.best(what));
        }
        for (int place = 0; place < 10; place++) {
            tell.accept("bestAt(" + place + ")", x.bestAt(place));
        }
    }

    private static void seeLikenesses(SymmetryTax x, BiConsumer<String, Integer> tell) {
        for (int t = 0; t < 6; t++) {
            tell.accept("has(" + t + ")", x.has(t));
            tell.accept("order(" + t + ")", x.order(t));
            for (int like = 0; like < 6; like++) {
                String at = "(" + t + ", " + like + ")";
                tell.accept("off" + at, x.off(t, like));
                tell.accept("tax" + at, x.tax(t, like));
                tell.accept("quite" + at, x.quite(t, like));
                tell.accept("forms" + at, x.forms(t, like));
            }
        }
    }

    private static void seeCells(SymmetryTax x, BiConsumer<String, Integer> tell) {
        for (int t = 0; t < x.count(0); t++) {
            int wide = x.fact(t, 0);
            int area = wide * x.fact(t, 1);
            for (int c = 0; c < area; c++) {
                tell.accept("of(" + t + ", " + c % wide + ", " + c / wide + ")", x.of(t, c % wide, c / wide));
            }
        }
    }

    private static void seeHoles(SymmetryTax x, BiConsumer<String, Integer> tell) {
        for (int t = 0; t < x.count(0); t++) {
            int wide = x.fact(t, 0);
            int area = wide * x.fact(t, 1);
            for (int c = 0; c < area; c++) {
                tell.accept("hole(" + t + ", " + c % wide + ", " + c / wide + ")", x.hole(t, c % wide, c / wide, 0));
            }
        }
    }

    // ---- calls that change nothing, or only what is told ----

    private static void compare(String call, Map<String, Integer> want, Map<String, Integer> got) {
        if (!want.keySet().equals(got.keySet())) {
            say("behind " + call + " there are other things");
            return;
        }
        for (Map.Entry<String, Integer> entry : want.entrySet()) {
            due("behind " + call + " " + entry.getKey(), got.get(entry.getKey()), entry.getValue());
        }
    }

    /** The call answers so, and all that the object tells stays as it was. */
    static void unchanged(String call, Act setup, Ask ask, int want) {
        due(call, ask.of(made(setup)), want);
        compare(call, told(setup), told(setup.then(x -> ask.of(x))));
    }

    /** The call answers so, and nothing but what is told by these questions becomes another one. */
    static void unchangedBut(String call, Act setup, Ask ask, int want, String... but) {
        due(call, ask.of(made(setup)), want);
        alike(call, setup, setup.then(x -> ask.of(x)), but);
    }

    /** Two objects tell the same, but for these questions. */
    static void alike(String call, Act one, Act other, String... but) {
        Map<String, Integer> want = told(one);
        Map<String, Integer> got = told(other);
        for (String question : but) {
            want.keySet().removeIf(key -> key.contains(question));
            got.keySet().removeIf(key -> key.contains(question));
        }
        compare(call, want, got);
    }

    /** The call is REFUSED: its number, status, the one count that goes up; all else stays as it was. */
    static void refused(String call, Act setup, Ask ask, int why) {
        refused(call, setup, x -> { }, Map.of(), ask, why);
    }

    /** "instead" and "but" tell what changes though the call is REFUSED: by an act, by answers to questions. */
    static void refused(String call, Act setup, Act instead, Map<String, Integer> but, Ask ask, int why) {
        due(call, ask.of(made(setup)), why);
        Map<String, Integer> want = told(setup.then(instead));
        String counted = "count(" + (4 + REASONS.indexOf(String.valueOf(why))) + ")";
        want.put("status()", why);
        want.replaceAll((key, value) -> {
            for (Map.Entry<String, Integer> entry : but.entrySet()) {
                if (key.endsWith(entry.getKey())) {
                    return entry.getValue();
                }
            }
            return key.endsWith(counted) ? value + 1 : value;
        });
        compare(call, want, told(setup.then(x -> ask.of(x))));
    }

    /** The first numbers beyond least .. most on each side, and the farthest ones. */
    private static int[] beyond(int least, int most) {
        return new int[] {least - 1, most + 1, Integer.MIN_VALUE, Integer.MAX_VALUE};
    }

    static void noneBeyond(String call, Act setup, int least, int most, AskAt ask) {
        for (int value : beyond(least, most)) {
            unchanged(call + " with " + value, setup, x -> ask.of(x, value), NONE);
        }
    }

    static void refusedBeyond(String call, Act setup, int least, int most, int why, AskAt ask) {
        for (int value : beyond(least, most)) {
            refused(call + " with " + value, setup, x -> ask.of(x, value), why);
        }
    }
}
