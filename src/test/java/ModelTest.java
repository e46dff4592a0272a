import java.util.ArrayDeque;
import java.util.ArrayList;
import java.util.Arrays;
import java.util.Collections;
import java.util.Deque;
import java.util.List;
import java.util.Random;

/**
 * Runs of drawn calls on the class and on a slow model of the document, which must answer alike.
 * The model goes other ways on purpose: laws are split into texts, every trial is counted anew.
 * Without arguments it runs a fixed set of seeds; "from count" runs others.
 */
public final class ModelTest {
    static int wrong = 0;

    static final class Broken extends RuntimeException {
        private static final long serialVersionUID = 1L;
    }

    static final class Item {
        int wide, tall, owner, place = -1;
        int[][] part;
        boolean[][] hole;

        Item(int wide, int tall, int owner) {
            this.wide = wide;
            this.tall = tall;
            this.owner = owner;
            part = new int[tall][wide];
            hole = new boolean[tall][wide];
        }

        Item twin() {
            Item t = new Item(wide, tall, owner);
            t.place = place;
            for (int y = 0; y < tall; y++) {
                t.part[y] = part[y].clone();
                t.hole[y] = hole[y].clone();
            }
            return t;
        }

        boolean in(int x, int y) {
            return x >= 0 && y >= 0 && x < wide && y < tall;
        }

        boolean can(int like) {
            return like >= 0 && like <= 2 || like >= 3 && like <= 5 && wide == tall;
        }

        int holes() {
            int n = 0;
            for (boolean[] r : hole) for (boolean h : r) if (h) n++;
            return n;
        }

        int parts() {
            return (int) Arrays.stream(part).flatMapToInt(Arrays::stream).distinct().count();
        }

        int off(int like) {
            return offOf(part, wide, tall, like);
        }

        int[][] form(int form) {
            if (form == 6) return part;
            if (form == 7) {
                Item a = twin();
                for (int i = 0; i < 3; i++) {
                    int[][] next = a.form(5);
                    a.part = next;
                }
                return a.part;
            }
            int[][] f = new int[tall][wide];
            for (int y = 0; y < tall; y++) for (int x = 0; x < wide; x++) {
                int[] to = taken(form, x, y, wide, tall);
                f[y][x] = part[to[1]][to[0]];
            }
            return f;
        }

        boolean hasForm(int form) {
            return form == 6 || can(form) || form == 7 && wide == tall;
        }
    }

    static int[] taken(int like, int x, int y, int w, int t) {
        switch (like) {
            case 0: return new int[] {w - 1 - x, y};
            case 1: return new int[] {x, t - 1 - y};
            case 2: return new int[] {w - 1 - x, t - 1 - y};
            case 3: return new int[] {y, x};
            case 4: return new int[] {t - 1 - y, w - 1 - x};
            default: return new int[] {t - 1 - y, x};
        }
    }

    static int offOf(int[][] p, int w, int t, int like) {
        int n = 0;
        for (int y = 0; y < t; y++) for (int x = 0; x < w; x++) {
            int[] to = taken(like, x, y, w, t);
            if (p[y][x] != p[to[1]][to[0]]) n++;
        }
        return n;
    }

    static final class State {
        List<Item> items = new ArrayList<>();
        List<List<String>> laws = new ArrayList<>();
        int force = -1;
        int[] terms = {0, 0, 1, 5};

        State twin() {
            State s = new State();
            for (Item i : items) s.items.add(i.twin());
            s.laws.addAll(laws);
            s.force = force;
            s.terms = terms.clone();
            return s;
        }
    }

    static final class Model {
        State s = new State();
        State[] kept = new State[2];
        List<Integer> tape = new ArrayList<>();
        int fault = -1, flakes = 0, status = 0;
        int[] refused = new int[7];
        int[] days = new int[0];

        int no(int why) {
            status = why;
            refused[-why]++;
            return why;
        }

        int yes(int a) {
            status = 0;
            return a;
        }

        Item at(int t) {
            return t >= 0 && t < s.items.size() ? s.items.get(t) : null;
        }

        int thing(int w, int t, int o) {
            if (w < 1 || w > 8 || t < 1 || t > 8 || o < 0 || o > 5) return no(-1);
            if (s.items.size() == 6) return no(-5);
            s.items.add(new Item(w, t, o));
            return yes(s.items.size() - 1);
        }

        int fact(int t, int what) {
            Item i = at(t);
            if (i == null || what < 0 || what > 5) return -1;
            return new int[] {i.wide, i.tall, i.owner, i.parts(), i.holes(), i.place}[what];
        }

        int paint(int t, int x, int y, int p) {
            if (p < 0 || p > 9) return no(-1);
            Item i = at(t);
            if (i == null) return no(-2);
            if (!i.in(x, y)) return no(-1);
            int was = i.part[y][x];
            i.part[y][x] = p;
            return yes(was);
        }

        int of(int t, int x, int y) {
            Item i = at(t);
            return i == null || !i.in(x, y) ? -1 : i.part[y][x];
        }

        int hole(int t, int x, int y, int is) {
            if (is != 0 && is != 1) return no(-1);
            Item i = at(t);
            if (i == null) return no(-2);
            if (!i.in(x, y)) return no(-1);
            boolean was = i.hole[y][x];
            if (is == 1 && !was && i.holes() == 6) return no(-5);
            i.hole[y][x] = is == 1;
            return yes(was ? 1 : 0);
        }

        int terms(int what, int v) {
            int[][] range = {{0, 64}, {0, 99}, {1, 9}, {0, 999}};
            if (what < 0 || what > 3 || v < range[what][0] || v > range[what][1]) return no(-1);
            int was = s.terms[what];
            s.terms[what] = v;
            return yes(was);
        }

        int feed(int... n) {
            if (tape.size() + 20 > 400) return -1;
            for (int v : n) for (int k = 3; k >= 0; k--) tape.add((v >> (8 * k)) & 255);
            return tape.size();
        }

        int end(int n) {
            if (n < 0 || n > tape.size()) return -1;
            tape = new ArrayList<>(tape.subList(0, n));
            return n;
        }

        int row() {
            List<Integer> was = tape;
            tape = new ArrayList<>();
            if (was.isEmpty() || at(was.get(0)) == null) return no(-6);
            Item i = at(was.get(0));
            int painted = 0;
            flakes = 0;
            for (int k = 1; k < was.size(); k++) {
                int c = k - 1;
                if (c >= i.wide * i.tall) {
                    flakes++;
                } else if (was.get(k) <= 9) {
                    i.part[c / i.wide][c % i.wide] = was.get(k);
                    painted++;
                }
            }
            return yes(painted);
        }

        int law() {
            List<Integer> was = tape;
            tape = new ArrayList<>();
            if (s.laws.size() == 6) return no(-5);
            List<String> tokens = new ArrayList<>();
            fault = faultOf(was, tokens);
            if (fault >= 0) return no(-6);
            s.laws.add(tokens);
            return yes(s.laws.size() - 1);
        }

        int force(int l) {
            if (l < -1 || l >= s.laws.size()) return no(-2);
            int was = s.force;
            s.force = l;
            return yes(was);
        }

        int tax(Item i, int like, int law, int day) {
            if (law < 0) return 10;
            int[] env = {like, i.off(like), i.wide, i.tall, i.wide * i.tall, i.owner, day, i.parts()};
            int told = 10;
            for (List<String> c : split(s.laws.get(law), ";")) {
                int cut = c.indexOf("if");
                try {
                    if (cut >= 0 && !test(c.subList(cut + 1, c.size()), env)) continue;
                    if (c.get(0).equals("spares")) return 0;
                    long v = sum(c.subList(1, cut >= 0 ? cut : c.size()), env);
                    told = (int) Math.max(0, Math.min(999, v));
                } catch (Broken b) {
                    continue;
                }
            }
            return told;
        }

        int owed(Item i, int law, int day) {
            int n = 0;
            for (int l = 0; l < 6; l++) if (i.can(l) && i.off(l) <= s.terms[0]) n += tax(i, l, law, day);
            return n;
        }

        int owed(Item i) {
            return owed(i, s.force, s.terms[1]);
        }

        int owedBy(int law) {
            int n = 0;
            for (Item i : s.items) n += owed(i, law, s.terms[1]);
            return n;
        }

        int off(int t, int like) {
            Item i = at(t);
            return i == null || !i.can(like) ? -1 : i.off(like);
        }

        int has(int t) {
            Item i = at(t);
            if (i == null) return -1;
            int bits = 0;
            for (int l = 0; l < 6; l++) if (i.can(l) && i.off(l) <= s.terms[0]) bits += 1 << l;
            return bits;
        }

        int tax(int t, int like) {
            Item i = at(t);
            return i == null || !i.can(like) ? -1 : tax(i, like, s.force, s.terms[1]);
        }

        int owes(int t) {
            if (t == -1) return owedBy(s.force);
            return at(t) == null ? -1 : owed(at(t));
        }

        int owner(int o) {
            if (o < 0 || o > 5) return -1;
            int n = 0;
            for (Item i : s.items) if (i.owner == o) n += owed(i);
            return n;
        }

        int brings(int law) {
            return law < -1 || law >= s.laws.size() ? -1 : owedBy(law);
        }

        int dearest() {
            int best = -1;
            for (int l = 0; l < s.laws.size(); l++) if (best < 0 || owedBy(l) > owedBy(best)) best = l;
            return best;
        }

        int[][] quiteForm(Item i, int like) {
            int[][] out = new int[i.tall][i.wide];
            for (int y = 0; y < i.tall; y++) for (int x = 0; x < i.wide; x++) {
                List<Integer> ring = new ArrayList<>();
                int cx = x;
                int cy = y;
                do {
                    ring.add(i.part[cy][cx]);
                    int[] to = taken(like, cx, cy, i.wide, i.tall);
                    cx = to[0];
                    cy = to[1];
                } while (cx != x || cy != y);
                int best = 0;
                for (int p = 1; p < 10; p++) {
                    if (Collections.frequency(ring, p) > Collections.frequency(ring, best)) best = p;
                }
                out[y][x] = best;
            }
            return out;
        }

        int quite(int t, int like) {
            Item i = at(t);
            if (i == null || !i.can(like)) return -1;
            int n = 0;
            int[][] q = quiteForm(i, like);
            for (int y = 0; y < i.tall; y++) for (int x = 0; x < i.wide; x++) if (q[y][x] != i.part[y][x]) n++;
            return n;
        }

        int quiteAt(int t, int like, int x, int y) {
            Item i = at(t);
            return i == null || !i.can(like) || !i.in(x, y) ? -1 : quiteForm(i, like)[y][x];
        }

        int free(int t, int part, int what) {
            Item i = at(t);
            if (i == null || part < 0 || part > 9 || what < 0 || what > 4) return -1;
            for (int k = 0; k <= 3; k++) {
                List<int[]> found = new ArrayList<>();
                combos(i, part, new int[k], 0, 0, found);
                if (!found.isEmpty()) {
                    if (what == 0) return k;
                    if (what == 4) return found.size();
                    return what <= k ? found.get(0)[what - 1] : -1;
                }
            }
            return what == 4 ? 0 : -1;
        }

        void combos(Item i, int part, int[] c, int d, int from, List<int[]> found) {
            if (d == c.length) {
                Item p = i.twin();
                for (int cell : c) p.part[cell / i.wide][cell % i.wide] = part;
                if (owed(p) == 0) found.add(c.clone());
                return;
            }
            for (int cell = from; cell < i.wide * i.tall; cell++) {
                c[d] = cell;
                combos(i, part, c, d + 1, cell + 1, found);
            }
        }

        int form(int t, int form, int x, int y) {
            Item i = at(t);
            return i == null || !i.hasForm(form) || !i.in(x, y) ? -1 : i.form(form)[y][x];
        }

        int order(int t) {
            Item i = at(t);
            if (i == null) return -1;
            int n = 0;
            for (int f = 0; f < 8; f++) if (i.hasForm(f) && Arrays.deepEquals(i.form(f), i.part)) n++;
            return n;
        }

        int forms(int t, int o) {
            Item i = at(t);
            Item j = at(o);
            if (i == null || j == null) return -1;
            int bits = 0;
            for (int f = 0; f < 8; f++) if (i.hasForm(f) && Arrays.deepEquals(i.form(f), j.part)) bits |= 1 << f;
            return bits;
        }

        List<Item> fillings(Item i, int parts, int sum) {
            List<int[]> holes = new ArrayList<>();
            for (int y = 0; y < i.tall; y++) for (int x = 0; x < i.wide; x++) if (i.hole[y][x]) holes.add(new int[] {x, y});
            int all = 1;
            for (int h = 0; h < holes.size(); h++) all *= parts;
            List<Item> out = new ArrayList<>();
            for (int n = 0; n < all; n++) {
                Item f = i.twin();
                int rest = n;
                for (int[] h : holes) {
                    f.part[h[1]][h[0]] = rest % parts;
                    rest /= parts;
                }
                if (owed(f) == sum) out.add(f);
            }
            return out;
        }

        boolean canFill(int t, int parts, int sum) {
            return at(t) != null && parts >= 2 && parts <= 4 && sum >= 0 && sum <= 9999;
        }

        int fills(int t, int parts, int sum) {
            return canFill(t, parts, sum) ? fillings(at(t), parts, sum).size() : -1;
        }

        int sure(int t, int parts, int sum, int x, int y) {
            if (!canFill(t, parts, sum) || !at(t).in(x, y) || !at(t).hole[y][x]) return -1;
            int got = -1;
            for (Item f : fillings(at(t), parts, sum)) {
                if (got >= 0 && got != f.part[y][x]) return -1;
                got = f.part[y][x];
            }
            return got;
        }

        int place(int t, int p) {
            if (p < -1 || p > 9) return no(-1);
            Item i = at(t);
            if (i == null) return no(-2);
            for (Item o : s.items) if (o != i && p >= 0 && o.place == p) return no(-3);
            int was = i.place;
            i.place = p;
            return yes(was);
        }

        int pairs(int[] row) {
            int n = 0;
            for (int p = 0; p < 10; p++) for (int q = p + 1; q < 10 && q <= p + s.terms[2]; q++) {
                if (row[p] >= 0 && row[q] >= 0
                        && Arrays.deepEquals(at(row[p]).form(0), at(row[q]).part)) n++;
            }
            return n;
        }

        int[] now() {
            int[] row = new int[10];
            Arrays.fill(row, -1);
            for (int t = 0; t < s.items.size(); t++) if (at(t).place >= 0) row[at(t).place] = t;
            return row;
        }

        int street(int what) {
            if (what != 0 && what != 1) return -1;
            return pairs(now()) * (what == 0 ? s.terms[3] : 1);
        }

        List<int[]> rows(int[] like) {
            List<int[]> out = new ArrayList<>();
            rows(like, new int[10], 0, out);
            return out;
        }

        void rows(int[] like, int[] row, int p, List<int[]> out) {
            if (p == 10) {
                out.add(row.clone());
                return;
            }
            if (like[p] < 0) {
                row[p] = -1;
                rows(like, row, p + 1, out);
                return;
            }
            for (int t = 0; t < s.items.size(); t++) {
                boolean used = at(t).place < 0;
                for (int q = 0; q < p; q++) used |= row[q] == t;
                if (!used) {
                    row[p] = t;
                    rows(like, row, p + 1, out);
                }
            }
        }

        int best(int what) {
            if (what != 0 && what != 1) return -1;
            int least = Integer.MAX_VALUE;
            int n = 0;
            for (int[] r : rows(now())) {
                int v = pairs(r) * s.terms[3];
                if (v < least) {
                    least = v;
                    n = 0;
                }
                if (v == least) n++;
            }
            return what == 0 ? least : n;
        }

        int bestAt(int p) {
            if (p < 0 || p > 9) return -1;
            int least = best(0);
            for (int[] r : rows(now())) if (pairs(r) * s.terms[3] == least) return r[p];
            return -1;
        }

        int ruler(int t, int like, int r) {
            Item i = at(t);
            if (i == null || !i.can(like) || r < 1 || r > 8) return -1;
            int w = 0;
            while (w * r < i.wide) w++;
            int h = 0;
            while (h * r < i.tall) h++;
            String[][] seen = new String[h][w];
            for (int y = 0; y < h; y++) for (int x = 0; x < w; x++) {
                StringBuilder b = new StringBuilder();
                for (int p = 0; p < 10; p++) {
                    int n = 0;
                    for (int cy = y * r; cy < i.tall && cy < y * r + r; cy++) {
                        for (int cx = x * r; cx < i.wide && cx < x * r + r; cx++) if (i.part[cy][cx] == p) n++;
                    }
                    b.append(n).append(' ');
                }
                seen[y][x] = b.toString();
            }
            int n = 0;
            for (int y = 0; y < h; y++) for (int x = 0; x < w; x++) {
                int[] to = taken(like, x, y, w, h);
                if (!seen[y][x].equals(seen[to[1]][to[0]])) n++;
            }
            return n;
        }

        long drawn;

        int draw(int m) {
            drawn = (drawn * 1103 + 12345) % 1000003;
            return (int) (drawn % m);
        }

        int daub(int seed, int n) {
            if (seed < 0 || seed > 1000000 || n < 1 || n > 40) return no(-1);
            drawn = seed;
            State paper = s.twin();
            days = new int[n];
            int all = 0;
            for (int d = 0; d < n; d++) {
                for (Item i : paper.items) {
                    int c = draw(i.wide * i.tall);
                    i.part[c / i.wide][c % i.wide] = draw(10);
                }
                for (Item i : paper.items) days[d] += owed(i, s.force, s.terms[1] + d);
                all += days[d];
            }
            return yes(all);
        }

        int daubed(int i) {
            return i < 0 || i >= days.length ? -1 : days[i];
        }

        int image(int k) {
            if (k != 0 && k != 1) return no(-1);
            kept[k] = s.twin();
            return yes(0);
        }

        int back(int k) {
            if (k != 0 && k != 1) return no(-1);
            if (kept[k] == null) return no(-2);
            s = kept[k].twin();
            return yes(0);
        }

        int count(int what) {
            int standing = 0;
            for (Item i : s.items) if (i.place >= 0) standing++;
            int[] all = {s.items.size(), s.laws.size(), standing, tape.size(), refused[1], refused[2], refused[3],
                refused[5], refused[6], s.force, s.terms[0], s.terms[1], s.terms[2], s.terms[3]};
            return what < 0 || what >= all.length ? -1 : all[what];
        }
    }

    // ---- laws of the model ----

    static final List<String> WORDS = List.of("like", "off", "wide", "tall", "area", "owner", "day", "parts");

    static boolean isPart(String t) {
        if (WORDS.contains(t)) return true;
        if (!t.matches("[0-9]+")) return false;
        return new java.math.BigInteger(t).compareTo(java.math.BigInteger.valueOf(1000)) <= 0;
    }

    /** A machine with a stack of brackets; -1 if all can go on. */
    static int faultOf(List<Integer> bytes, List<String> out) {
        StringBuilder b = new StringBuilder();
        for (int v : bytes) b.append((char) v);
        java.util.regex.Matcher m = java.util.regex.Pattern.compile("[a-z]+|[0-9]+|[^ ]", java.util.regex.Pattern.DOTALL)
            .matcher(b);
        List<Integer> places = new ArrayList<>();
        while (m.find()) {
            out.add(m.group());
            places.add(m.start());
        }
        out.add("");
        places.add(b.length());
        // C a clause; T a plain; X, L, R a part of a tax, left, right of a sign; small: behind such a part; t behind a plain; s behind spares
        char state = 'C';
        Deque<Character> open = new ArrayDeque<>();
        int parts = 0;
        int clauses = 0;
        for (int k = 0; k < out.size(); k++) {
            String t = out.get(k);
            char next = '?';
            boolean end = t.isEmpty();
            if (state == 'C') {
                if (clauses < 12 && t.equals("tax")) next = 'X';
                if (clauses < 12 && t.equals("spares")) next = 's';
                clauses++;
            } else if ("TXLR".indexOf(state) >= 0) {
                if (state == 'T' && t.equals("not")) next = 'T';
                else if (state == 'T' && t.equals("(") && open.size() < 8) {
                    open.push('(');
                    next = 'T';
                } else {
                    char sum = state == 'T' ? 'L' : state;
                    if (t.equals("[") && open.size() < 8) {
                        open.push('[');
                        next = sum;
                    } else if (!end && isPart(t) && parts < 50) {
                        parts++;
                        next = Character.toLowerCase(sum);
                    }
                }
            } else {
                boolean inSum = !open.isEmpty() && open.peek() == '[';
                boolean sums = "xlr".indexOf(state) >= 0;
                if (sums && !end && "+-*/".contains(t)) next = Character.toUpperCase(state);
                else if (sums && inSum && t.equals("]")) {
                    open.pop();
                    next = state;
                } else if (!inSum) {
                    if (state == 'l' && !end && "<>=".contains(t)) next = 'R';
                    if ((state == 'r' || state == 't') && (t.equals("and") || t.equals("or"))) next = 'T';
                    if ((state == 'r' || state == 't') && t.equals(")") && !open.isEmpty()) {
                        open.pop();
                        next = 't';
                    }
                    if ((state == 'x' || state == 's') && t.equals("if")) next = 'T';
                    if (state != 'l' && open.isEmpty() && t.equals(";")) next = 'C';
                    if (state != 'l' && open.isEmpty() && end) next = '.';
                }
            }
            if (next == '?') return places.get(k);
            state = next;
        }
        out.remove(out.size() - 1);
        return -1;
    }

    static List<List<String>> split(List<String> tokens, String by) {
        List<List<String>> out = new ArrayList<>();
        int from = 0;
        int depth = 0;
        for (int k = 0; k <= tokens.size(); k++) {
            if (k == tokens.size() || depth == 0 && tokens.get(k).equals(by)) {
                out.add(tokens.subList(from, k));
                from = k + 1;
            } else {
                if (tokens.get(k).equals("(") || tokens.get(k).equals("[")) depth++;
                if (tokens.get(k).equals(")") || tokens.get(k).equals("]")) depth--;
            }
        }
        return out;
    }

    static boolean test(List<String> t, int[] env) {
        List<List<String>> ors = split(t, "or");
        if (ors.size() > 1) {
            for (List<String> o : ors) if (test(o, env)) return true;
            return false;
        }
        List<List<String>> ands = split(t, "and");
        if (ands.size() > 1) {
            for (List<String> a : ands) if (!test(a, env)) return false;
            return true;
        }
        if (t.get(0).equals("not")) return !test(t.subList(1, t.size()), env);
        if (t.get(0).equals("(")) return test(t.subList(1, t.size() - 1), env);
        for (String sign : List.of("<", ">", "=")) {
            List<List<String>> sides = split(t, sign);
            if (sides.size() == 2) {
                long a = sum(sides.get(0), env);
                long b = sum(sides.get(1), env);
                return sign.equals("<") ? a < b : sign.equals(">") ? a > b : a == b;
            }
        }
        throw new IllegalStateException("no test: " + t);
    }

    static int lastOf(List<String> t, String a, String b) {
        int depth = 0;
        for (int k = t.size() - 1; k >= 0; k--) {
            if (t.get(k).equals("]")) depth++;
            if (t.get(k).equals("[")) depth--;
            if (depth == 0 && (t.get(k).equals(a) || t.get(k).equals(b))) return k;
        }
        return -1;
    }

    static long sum(List<String> t, int[] env) {
        int k = lastOf(t, "+", "-");
        if (k < 0) k = lastOf(t, "*", "/");
        if (k < 0) {
            if (t.get(0).equals("[")) return sum(t.subList(1, t.size() - 1), env);
            return WORDS.contains(t.get(0)) ? env[WORDS.indexOf(t.get(0))] : Integer.parseInt(t.get(0));
        }
        long a = sum(t.subList(0, k), env);
        long b = sum(t.subList(k + 1, t.size()), env);
        long v;
        switch (t.get(k)) {
            case "+": v = a + b; break;
            case "-": v = a - b; break;
            case "*": v = a * b; break;
            default:
                if (b == 0) throw new Broken();
                v = a / b;
                break;
        }
        if (Math.abs(v) > 1000000000L) throw new Broken();
        return v;
    }

    // ---- drawn texts ----

    static String drawText(Random r) {
        StringBuilder b = new StringBuilder();
        int clauses = r.nextInt(20) == 0 ? 11 + r.nextInt(4) : 1 + r.nextInt(4);
        for (int c = 0; c < clauses; c++) {
            if (c > 0) b.append(r.nextBoolean() ? ";" : " ; ");
            if (r.nextInt(4) == 0) b.append("spares");
            else {
                b.append("tax ");
                drawSum(r, b, clauses > 9 ? 0 : 2);
            }
            if (r.nextInt(3) > 0 && clauses < 9) {
                b.append(" if ");
                drawTest(r, b, 2);
            }
        }
        if (r.nextInt(12) == 0) return deepText(r);
        if (r.nextInt(4) == 0 && b.length() > 0) {
            String junk = "abz019;()[]<>=+-*/ \t&A" + (char) 200 + (char) 0;
            for (int n = r.nextInt(3); n >= 0; n--) {
                int at = r.nextInt(b.length());
                if (r.nextInt(3) == 0) b.deleteCharAt(at);
                else if (r.nextBoolean()) b.setCharAt(at, junk.charAt(r.nextInt(junk.length())));
                else b.insert(at, junk.charAt(r.nextInt(junk.length())));
                if (b.length() == 0) break;
            }
        }
        return b.toString();
    }

    static String deepText(Random r) {
        int n = 7 + r.nextInt(3);
        switch (r.nextInt(4)) {
            case 0:
                return "tax " + "[".repeat(n) + "like" + "]".repeat(n) + "*3";
            case 1: {
                int round = r.nextInt(n + 1);
                return "tax 7 if " + "(".repeat(round) + "[".repeat(n - round) + "off" + "]".repeat(n - round) + "<3"
                    + ")".repeat(round);
            }
            case 2: {
                StringBuilder b = new StringBuilder("tax 1");
                int parts = 48 + r.nextInt(4);
                for (int k = 1; k < parts; k++) b.append("+*-".charAt(r.nextInt(3))).append(r.nextBoolean() ? "1" : "like");
                return b.toString();
            }
            default:
                return "spares if " + "not ".repeat(r.nextInt(90)) + "like>1";
        }
    }

    static void drawTest(Random r, StringBuilder b, int depth) {
        int n = depth == 0 ? 1 : 1 + r.nextInt(3);
        for (int k = 0; k < n; k++) {
            if (k > 0) b.append(r.nextBoolean() ? " and " : " or ");
            int what = depth == 0 ? 9 : r.nextInt(8);
            if (what == 0) {
                b.append("not ");
                drawTest(r, b, 0);
            } else if (what == 1) {
                b.append("(");
                drawTest(r, b, depth - 1);
                b.append(")");
            } else {
                drawSum(r, b, depth - 1);
                b.append("<>=".charAt(r.nextInt(3)));
                drawSum(r, b, depth - 1);
            }
        }
    }

    static void drawSum(Random r, StringBuilder b, int depth) {
        int n = depth <= 0 ? 1 : 1 + r.nextInt(3);
        for (int k = 0; k < n; k++) {
            if (k > 0) b.append("+-*/".charAt(r.nextInt(4)));
            int what = r.nextInt(10);
            if (what == 0 && depth > 0) {
                b.append("[");
                drawSum(r, b, depth - 1);
                b.append("]");
            } else if (what < 5) b.append(r.nextInt(6) == 0 ? r.nextInt(1003) : r.nextInt(8));
            else b.append(WORDS.get(r.nextInt(8)));
        }
    }

    // ---- runs ----

    static int weird(Random r, int n) {
        int[] odd = {-1, -2, n, n + 1, Integer.MAX_VALUE, Integer.MIN_VALUE, 1000, 65536};
        return r.nextInt(14) == 0 ? odd[r.nextInt(odd.length)] : r.nextInt(n);
    }

    final Random r;
    final Model m = new Model();
    final SymmetryTax x = new SymmetryTax();
    final long seed;
    final List<String> calls = new ArrayList<>();
    int left = 512;
    boolean bad = false;

    ModelTest(long seed) {
        this.seed = seed;
        r = new Random(seed);
    }

    void same(String call, int got, int want) {
        left--;
        calls.add(call + " = " + got);
        if (got != want && !bad) {
            bad = true;
            wrong++;
            System.out.println("seed " + seed + ", call " + calls.size() + ": " + call + " answered " + got + ", due is " + want);
        }
    }

    void feedAll(byte[] bytes) {
        int from = m.tape.size();
        for (int k = 0; k < bytes.length; k += 20) {
            int[] n = new int[5];
            for (int i = 0; i < 20; i++) n[i / 4] = n[i / 4] << 8 | (k + i < bytes.length ? bytes[k + i] & 255 : 0);
            same("feed(" + Arrays.toString(n) + ")", x.feed(n[0], n[1], n[2], n[3], n[4]), m.feed(n));
        }
        int end = Math.min(from + bytes.length, 400);
        same("end(" + end + ")", x.end(end), m.end(end));
    }

    int t() {
        return weird(r, Math.max(1, m.s.items.size()));
    }

    int anySide(int t) {
        return weird(r, m.at(t) == null ? 8 : Math.max(m.at(t).wide, m.at(t).tall));
    }

    int part() {
        return r.nextInt(3) > 0 ? r.nextInt(3) : weird(r, 10);
    }

    void change() {
        int t = t();
        int a = anySide(t);
        int b = anySide(t);
        switch (r.nextInt(16)) {
            case 0: case 1: {
                int w = r.nextInt(3) == 0 ? weird(r, 9) : 1 + r.nextInt(4);
                int h = r.nextInt(3) > 0 ? w : 1 + r.nextInt(4);
                int o = weird(r, 6);
                same("thing(" + w + "," + h + "," + o + ")", x.thing(w, h, o), m.thing(w, h, o));
                break;
            }
            case 2: case 3: case 4: {
                int p = part();
                same("paint(" + t + "," + a + "," + b + "," + p + ")", x.paint(t, a, b, p), m.paint(t, a, b, p));
                break;
            }
            case 5: case 6: {
                int is = r.nextInt(5) == 0 ? weird(r, 2) : 1;
                same("hole(" + t + "," + a + "," + b + "," + is + ")", x.hole(t, a, b, is), m.hole(t, a, b, is));
                break;
            }
            case 7: {
                int what = weird(r, 4);
                int v = r.nextBoolean() ? r.nextInt(7) : weird(r, new int[] {66, 101, 11, 1001}[what & 3]);
                same("terms(" + what + "," + v + ")", x.terms(what, v), m.terms(what, v));
                break;
            }
            case 8: drawRow(t);
                break;
            case 9: case 10:
                if (r.nextInt(30) > 0) feedAll(drawText(r).getBytes(java.nio.charset.StandardCharsets.ISO_8859_1));
                same("law()", x.law(), m.law());
                same("fault()", x.fault(), m.fault);
                break;
            case 11: {
                int l = weird(r, Math.max(1, m.s.laws.size()));
                same("force(" + l + ")", x.force(l), m.force(l));
                break;
            }
            case 12: case 13: {
                int p = r.nextInt(8) == 0 ? -1 : weird(r, 10);
                same("place(" + t + "," + p + ")", x.place(t, p), m.place(t, p));
                break;
            }
            case 14: {
                int k = weird(r, 2);
                same("image(" + k + ")", x.image(k), m.image(k));
                break;
            }
            default: {
                int k = weird(r, 2);
                if (r.nextInt(2) == 0) same("back(" + k + ")", x.back(k), m.back(k));
                else tapeOnly();
                break;
            }
        }
        same("status()", x.status(), m.status);
    }

    void tapeOnly() {
        if (r.nextBoolean()) {
            int n = r.nextInt();
            same("feed(" + n + ")", x.feed(n, 1, -1, n, 7), m.feed(n, 1, -1, n, 7));
        } else {
            int n = weird(r, m.tape.size() + 2);
            same("end(" + n + ")", x.end(n), m.end(n));
        }
    }

    /** Often alike on one side or another, so that something is owed. */
    void drawRow(int t) {
        Item i = m.at(t);
        int n = i == null ? r.nextInt(5) : i.wide * i.tall;
        byte[] bytes = new byte[1 + Math.max(0, n + r.nextInt(5) - 2)];
        bytes[0] = (byte) t;
        int kinds = 1 + r.nextInt(4);
        for (int k = 1; k < bytes.length; k++) {
            bytes[k] = (byte) (r.nextInt(12) == 0 ? r.nextInt(256) : r.nextInt(kinds));
        }
        if (i != null && r.nextBoolean()) {
            int like = r.nextInt(i.wide == i.tall ? 6 : 3);
            for (int round = 0; round < 4; round++) for (int c = 0; c < n; c++) {
                int[] to = taken(like, c % i.wide, c / i.wide, i.wide, i.tall);
                int d = to[1] * i.wide + to[0];
                if (c + 1 < bytes.length && d + 1 < bytes.length) bytes[d + 1] = bytes[c + 1];
            }
        }
        int other = r.nextInt(6);
        Item j = m.at(other);
        if (i != null && j != null && i.wide == j.wide && i.tall == j.tall && r.nextBoolean()) {
            int form = r.nextInt(3) > 0 ? 0 : r.nextInt(8);
            if (j.hasForm(form)) for (int c = 0; c < n && c + 1 < bytes.length; c++) {
                bytes[c + 1] = (byte) j.form(form)[c / i.wide][c % i.wide];
            }
        }
        if (r.nextInt(10) > 0) feedAll(bytes);
        same("row()", x.row(), m.row());
        same("flakes()", x.flakes(), m.flakes);
    }

    void ask() {
        int t = t();
        int o = t();
        int like = weird(r, 6);
        int a = anySide(t);
        int b = anySide(t);
        String at = "(" + t + "," + like + ")";
        switch (r.nextInt(24)) {
            case 0: same("off" + at, x.off(t, like), m.off(t, like)); break;
            case 1: same("has " + t, x.has(t), m.has(t)); break;
            case 2: same("tax" + at, x.tax(t, like), m.tax(t, like)); break;
            case 3: same("owes " + t, x.owes(t), m.owes(t)); break;
            case 4: same("owner " + like, x.owner(like), m.owner(like)); break;
            case 5: same("brings " + like, x.brings(like), m.brings(like)); break;
            case 6: same("dearest", x.dearest(), m.dearest()); break;
            case 7: same("quite" + at, x.quite(t, like), m.quite(t, like)); break;
            case 8: same("quiteAt" + at + a + "," + b, x.quiteAt(t, like, a, b), m.quiteAt(t, like, a, b)); break;
            case 9: case 10: askFree(t); break;
            case 11: case 12: {
                int f = weird(r, 8);
                same("form " + t + "," + f + "," + a + "," + b, x.form(t, f, a, b), m.form(t, f, a, b));
                break;
            }
            case 13: same("order " + t, x.order(t), m.order(t)); break;
            case 14: same("forms " + t + "," + o, x.forms(t, o), m.forms(t, o)); break;
            case 15: case 16: askFills(t, a, b); break;
            case 17: {
                int w = weird(r, 2);
                same("street " + w, x.street(w), m.street(w));
                break;
            }
            case 18: askBest(); break;
            case 19: {
                int k = weird(r, 9);
                same("ruler" + at + k, x.ruler(t, like, k), m.ruler(t, like, k));
                break;
            }
            case 20: {
                int seed = r.nextInt(8) == 0 ? weird(r, 1000002) : r.nextInt(1000001);
                int n = r.nextInt(4) == 0 ? weird(r, 42) : 1 + r.nextInt(5);
                same("daub " + seed + "," + n, x.daub(seed, n), m.daub(seed, n));
                for (int i = -1; i <= Math.min(m.days.length, 4); i++) same("daubed " + i, x.daubed(i), m.daubed(i));
                break;
            }
            case 21: {
                int w = weird(r, 14);
                same("count " + w, x.count(w), m.count(w));
                break;
            }
            case 22: {
                int w = weird(r, 6);
                same("fact " + t + "," + w, x.fact(t, w), m.fact(t, w));
                break;
            }
            default: same("of " + t + "," + a + "," + b, x.of(t, a, b), m.of(t, a, b)); break;
        }
    }

    void askFree(int t) {
        int p = part();
        Item i = m.at(t);
        if (i != null && i.wide * i.tall > 25 && r.nextInt(8) > 0) return;
        for (int what = 0; what <= 4; what++) same("free " + t + "," + p + "," + what, x.free(t, p, what), m.free(t, p, what));
        int what = weird(r, 5);
        same("free " + t + "," + p + "," + what, x.free(t, p, what), m.free(t, p, what));
    }

    void askFills(int t, int a, int b) {
        int n = r.nextInt(4) == 0 ? weird(r, 6) : 2 + r.nextInt(3);
        Item i = m.at(t);
        int sum = weird(r, 80);
        if (i != null && r.nextInt(3) > 0) {
            Item f = i.twin();
            for (int y = 0; y < i.tall; y++) for (int c = 0; c < i.wide; c++) if (f.hole[y][c]) f.part[y][c] = r.nextInt(2);
            sum = m.owed(f);
        }
        same("fills " + t + "," + n + "," + sum, x.fills(t, n, sum), m.fills(t, n, sum));
        same("sure " + a + "," + b, x.sure(t, n, sum, a, b), m.sure(t, n, sum, a, b));
        if (i == null) return;
        for (int y = 0; y < i.tall; y++) for (int c = 0; c < i.wide; c++) if (i.hole[y][c]) {
            same("sure " + c + "," + y, x.sure(t, n, sum, c, y), m.sure(t, n, sum, c, y));
        }
    }

    void askBest() {
        int w = weird(r, 2);
        same("best " + w, x.best(w), m.best(w));
        if (r.nextBoolean()) for (int p = -1; p <= 10; p++) same("bestAt " + p, x.bestAt(p), m.bestAt(p));
    }

    void run() {
        while (left > 100 && !bad) {
            if (r.nextInt(5) < 3) change();
            else ask();
        }
        for (int w = -1; w <= 14; w++) same("count " + w, x.count(w), m.count(w));
        for (int t = 0; t < m.s.items.size(); t++) {
            Item i = m.at(t);
            for (int y = 0; y < i.tall && left > 0; y++) for (int c = 0; c < i.wide && left > 0; c++) {
                same("of " + t + "," + c + "," + y, x.of(t, c, y), m.of(t, c, y));
            }
        }
    }

    public static void main(String[] args) {
        long from = args.length > 0 ? Long.parseLong(args[0]) : 1;
        long count = args.length > 1 ? Long.parseLong(args[1]) : 250;
        for (long seed = from; seed < from + count; seed++) {
            ModelTest run = new ModelTest(seed);
            run.run();
            if (run.bad && args.length > 2) run.calls.forEach(System.out::println);
        }
        System.out.println(wrong == 0 ? "the model answers alike" : wrong + " runs answered otherwise than the model");
        if (wrong != 0) System.exit(1);
    }
}
