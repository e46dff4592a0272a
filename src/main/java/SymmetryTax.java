import java.util.Arrays;

/** A tax on what is alike on both sides; ../shared/DOC.md says what each call answers. */
public final class SymmetryTax {
    public static final int NONE = -1;

    private static final int BAD_NUMBER = -1;
    private static final int NO_SUCH = -2;
    private static final int CANNOT_BE = -3;
    private static final int NO_ROOM = -5;
    private static final int UNREADABLE = -6;
    private static final int REASONS = 5;

    private static final int THINGS = 6;
    private static final int SIDE = 8;
    private static final int CELLS = 64;
    private static final int PARTS = 10;
    private static final int OWNERS = 6;
    private static final int HOLES = 6;
    private static final int LAWS = 6;
    private static final int PLACES = 10;
    private static final int IMAGES = 2;
    private static final int TAPE = 400;
    private static final int FED = 20;

    private static final int LIKENESSES = 6;
    private static final int PLAIN_LIKENESSES = 3;
    private static final int QUARTER_TURN = 5;
    private static final int AS_IT_IS = 6;
    private static final int QUARTER_BACK = 7;
    private static final int FORMS = 8;
    private static final int LONGEST_RING = 4;

    private static final int SLACK = 0;
    private static final int DAY = 1;
    private static final int NEAR = 2;
    private static final int TWIN = 3;
    private static final int TERMS = 4;
    private static final int[] FIRST_TERMS = {0, 0, 1, 5};
    private static final int[] LEAST_TERMS = {0, 0, 1, 0};
    private static final int[] MOST_TERMS = {64, 99, 9, 999};

    private static final int FREE_CELLS = 3;
    private static final int FREE_WAYS = 4;
    private static final int LEAST_FILLED = 2;
    private static final int MOST_FILLED = 4;
    private static final int MOST_SUM = 9999;
    private static final int MOST_SEED = 1_000_000;
    private static final int MOST_DAYS = 40;

    private final Books books = new Books();
    /** Null till it is kept, so that objects without images take less room. */
    private final Books[] images = new Books[IMAGES];
    private final int[] tape = new int[TAPE];
    private int tapeLength = 0;
    private int latestFault = NONE;
    private int latestFlakes = 0;
    private final int[] refusals = new int[REASONS];
    private int latestRefusal = 0;
    /** How often the state may have become another one: what a search found holds while it stays. */
    private int changes = 0;
    private final int[] owedOnDay = new int[MOST_DAYS];
    private int daysDaubed = 0;
    private final Paper[] papers = new Paper[THINGS];
    private final Reader reader = new Reader();
    private final Clerk clerk = new Clerk();
    private final Freeing freeing = new Freeing();
    private final Filling filling = new Filling();
    private final Street way = new Street();
    private final Ruler inspector = new Ruler();

    public SymmetryTax() {
        for (int t = 0; t < THINGS; t++) {
            papers[t] = new Paper();
        }
    }

    // ---- things ----

    public int thing(int wide, int tall, int owner) {
        if (!within(wide, 1, SIDE) || !within(tall, 1, SIDE) || !within(owner, 0, OWNERS - 1)) {
            return refuse(BAD_NUMBER);
        }
        int number = books.thingCount;
        if (number >= THINGS) {
            return refuse(NO_ROOM);
        }
        books.things[number].begin(wide, tall, owner);
        books.thingCount++;
        return done(number);
    }

    public int fact(int thing, int what) {
        Thing it = books.thingAt(thing);
        if (it == null) {
            return NONE;
        }
        switch (what) {
            case 0: return it.wide;
            case 1: return it.tall;
            case 2: return it.owner;
            case 3: return it.unlikeParts();
            case 4: return it.holeCount();
            case 5: return it.place;
            default: return NONE;
        }
    }

    public int paint(int thing, int x, int y, int part) {
        if (!within(part, 0, PARTS - 1)) {
            return refuse(BAD_NUMBER);
        }
        Thing it = books.thingAt(thing);
        if (it == null) {
            return refuse(NO_SUCH);
        }
        int cell = books.cellOf(thing, x, y);
        if (cell == NONE) {
            return refuse(BAD_NUMBER);
        }
        int had = it.cells[cell];
        it.cells[cell] = part;
        return done(had);
    }

    public int of(int thing, int x, int y) {
        int cell = books.cellOf(thing, x, y);
        return cell == NONE ? NONE : books.things[thing].cells[cell];
    }

    public int hole(int thing, int x, int y, int is) {
        if (!within(is, 0, 1)) {
            return refuse(BAD_NUMBER);
        }
        Thing it = books.thingAt(thing);
        if (it == null) {
            return refuse(NO_SUCH);
        }
        int cell = books.cellOf(thing, x, y);
        if (cell == NONE) {
            return refuse(BAD_NUMBER);
        }
        int was = it.holes[cell];
        if (is > was && it.holeCount() >= HOLES) {
            return refuse(NO_ROOM);
        }
        it.holes[cell] = is;
        return done(was);
    }

    public int terms(int what, int value) {
        if (!within(what, 0, TERMS - 1) || !within(value, LEAST_TERMS[what], MOST_TERMS[what])) {
            return refuse(BAD_NUMBER);
        }
        int was = books.terms[what];
        books.terms[what] = value;
        return done(was);
    }

    // ---- the tape, rows and laws ----

    public int feed(int a, int b, int c, int d, int e) {
        if (tapeLength > TAPE - FED) {
            return NONE;
        }
        putOnTape(a);
        putOnTape(b);
        putOnTape(c);
        putOnTape(d);
        putOnTape(e);
        return tapeLength;
    }

    public int end(int n) {
        if (!within(n, 0, tapeLength)) {
            return NONE;
        }
        tapeLength = n;
        return n;
    }

    public int row() {
        int length = tapeLength;
        tapeLength = 0;
        Thing it = length > 0 ? books.thingAt(tape[0]) : null;
        if (it == null) {
            return refuse(UNREADABLE);
        }
        int given = Math.min(length - 1, it.area());
        int painted = 0;
        for (int cell = 0; cell < given; cell++) {
            int part = tape[cell + 1];
            if (within(part, 0, PARTS - 1)) {
                it.cells[cell] = part;
                painted++;
            }
        }
        latestFlakes = length - 1 - given;
        return done(painted);
    }

    public int flakes() {
        return latestFlakes;
    }

    public int law() {
        int length = tapeLength;
        tapeLength = 0;
        int number = books.lawCount;
        if (number >= LAWS) {
            return refuse(NO_ROOM);
        }
        Law read = reader.read(tape, length);
        latestFault = reader.faultPlace;
        if (read == null) {
            return refuse(UNREADABLE);
        }
        books.laws[number] = read;
        books.lawCount++;
        return done(number);
    }

    public int fault() {
        return latestFault;
    }

    public int force(int law) {
        if (law != NONE && !books.hasLaw(law)) {
            return refuse(NO_SUCH);
        }
        int was = books.inForce;
        books.inForce = law;
        return done(was);
    }

    // ---- what is owed ----

    public int off(int thing, int like) {
        Paper paper = paperFor(thing, like);
        return paper == null ? NONE : paper.offs[like];
    }

    public int has(int thing) {
        Paper paper = paperOf(thing);
        if (paper == null) {
            return NONE;
        }
        int bits = 0;
        for (int like = 0; like < paper.likenesses; like++) {
            if (paper.offs[like] <= books.terms[SLACK]) {
                bits |= 1 << like;
            }
        }
        return bits;
    }

    public int tax(int thing, int like) {
        Paper paper = paperFor(thing, like);
        if (paper == null) {
            return NONE;
        }
        handOver(paper);
        return clerk.taxBy(like, paper.offs[like], paper.unlike);
    }

    public int owes(int thing) {
        if (thing == NONE) {
            layOut();
            return owedByAll(books.lawAt(books.inForce), books.terms[DAY]);
        }
        Paper paper = paperOf(thing);
        if (paper == null) {
            return NONE;
        }
        handOver(paper);
        return clerk.owed();
    }

    public int owner(int owner) {
        if (!within(owner, 0, OWNERS - 1)) {
            return NONE;
        }
        layOut();
        int sum = 0;
        for (int t = 0; t < books.thingCount; t++) {
            if (papers[t].owner == owner) {
                handOver(papers[t]);
                sum += clerk.owed();
            }
        }
        return sum;
    }

    public int brings(int law) {
        if (law != NONE && !books.hasLaw(law)) {
            return NONE;
        }
        layOut();
        return owedByAll(books.lawAt(law), books.terms[DAY]);
    }

    public int dearest() {
        layOut();
        int most = NONE;
        int which = NONE;
        for (int l = 0; l < books.lawCount; l++) {
            int sum = owedByAll(books.lawAt(l), books.terms[DAY]);
            if (sum > most) {
                most = sum;
                which = l;
            }
        }
        return which;
    }

    // ---- painted over ----

    public int quite(int thing, int like) {
        Paper paper = paperFor(thing, like);
        if (paper == null) {
            return NONE;
        }
        int painted = 0;
        for (int cell = 0; cell < paper.area(); cell++) {
            if (paper.mostOfRing(like, cell) != paper.cells[cell]) {
                painted++;
            }
        }
        return painted;
    }

    public int quiteAt(int thing, int like, int x, int y) {
        Paper paper = paperFor(thing, like);
        if (paper == null) {
            return NONE;
        }
        int cell = cellIn(paper.wide, paper.tall, x, y);
        return cell == NONE ? NONE : paper.mostOfRing(like, cell);
    }

    public int free(int thing, int part, int what) {
        if (!within(part, 0, PARTS - 1) || !within(what, 0, FREE_WAYS)) {
            return NONE;
        }
        if (!freeing.isOf(thing, part, changes)) {
            Paper paper = paperOf(thing);
            if (paper == null) {
                return NONE;
            }
            handOver(paper);
            freeing.seek(clerk, paper, part);
            freeing.keepFor(thing, changes);
        }
        if (what == 0) {
            return freeing.fewest;
        }
        if (what == FREE_WAYS) {
            return freeing.ways;
        }
        return what <= freeing.fewest ? freeing.first[what - 1] : NONE;
    }

    // ---- forms ----

    public int form(int thing, int form, int x, int y) {
        Paper paper = paperOf(thing);
        if (paper == null || !paper.hasForm(form)) {
            return NONE;
        }
        int cell = cellIn(paper.wide, paper.tall, x, y);
        return cell == NONE ? NONE : paper.cells[paper.to[form][cell]];
    }

    public int order(int thing) {
        int asItIs = forms(thing, thing);
        return asItIs == NONE ? NONE : Integer.bitCount(asItIs);
    }

    public int forms(int thing, int other) {
        Paper paper = paperOf(thing);
        Thing another = books.thingAt(other);
        return paper == null || another == null ? NONE : paper.formsAs(another);
    }

    // ---- holes filled ----

    public int fills(int thing, int parts, int sum) {
        return seekFillings(thing, parts, sum) ? filling.ways : NONE;
    }

    public int sure(int thing, int parts, int sum, int x, int y) {
        int cell = books.cellOf(thing, x, y);
        if (cell == NONE || !seekFillings(thing, parts, sum)) {
            return NONE;
        }
        return filling.sureAt(cell);
    }

    // ---- the street ----

    public int place(int thing, int place) {
        if (!within(place, NONE, PLACES - 1)) {
            return refuse(BAD_NUMBER);
        }
        Thing it = books.thingAt(thing);
        if (it == null) {
            return refuse(NO_SUCH);
        }
        int there = books.standingIn(place);
        if (there != NONE && there != thing) {
            return refuse(CANNOT_BE);
        }
        int stood = it.place;
        it.place = place;
        return done(stood);
    }

    public int street(int what) {
        if (!within(what, 0, 1)) {
            return NONE;
        }
        seekBest();
        return what == 0 ? way.pairs * books.terms[TWIN] : way.pairs;
    }

    public int best(int what) {
        if (!within(what, 0, 1)) {
            return NONE;
        }
        seekBest();
        return what == 0 ? way.least : way.ways;
    }

    public int bestAt(int place) {
        seekBest();
        return way.bestIn(place);
    }

    // ---- the inspector, daubing ----

    public int ruler(int thing, int like, int r) {
        Thing it = books.thingAt(thing);
        if (it == null || !fits(it, like) || !within(r, 1, SIDE)) {
            return NONE;
        }
        return inspector.measure(it, like, r);
    }

    public int daub(int seed, int n) {
        if (!within(seed, 0, MOST_SEED) || !within(n, 1, MOST_DAYS)) {
            return refuse(BAD_NUMBER);
        }
        layOut();
        Law inForce = books.lawAt(books.inForce);
        int drawn = seed;
        int sum = 0;
        for (int i = 0; i < n; i++) {
            for (int t = 0; t < books.thingCount; t++) {
                drawn = nextDraw(drawn);
                int cell = drawn % Math.max(1, papers[t].area());
                drawn = nextDraw(drawn);
                papers[t].put(cell, drawn % PARTS);
            }
            owedOnDay[i] = owedByAll(inForce, books.terms[DAY] + i);
            sum += owedOnDay[i];
        }
        daysDaubed = n;
        return done(sum);
    }

    public int daubed(int i) {
        return within(i, 0, daysDaubed - 1) ? owedOnDay[i] : NONE;
    }

    // ---- images, counts ----

    public int image(int k) {
        if (!within(k, 0, IMAGES - 1)) {
            return refuse(BAD_NUMBER);
        }
        if (images[k] == null) {
            images[k] = new Books();
        }
        images[k].copy(books);
        return done(0);
    }

    public int back(int k) {
        if (!within(k, 0, IMAGES - 1)) {
            return refuse(BAD_NUMBER);
        }
        if (images[k] == null) {
            return refuse(NO_SUCH);
        }
        books.copy(images[k]);
        return done(0);
    }

    public int count(int what) {
        if (within(what, 4, 8)) {
            return refusals[what - 4];
        }
        if (within(what, 10, 13)) {
            return books.terms[what - 10];
        }
        switch (what) {
            case 0: return books.thingCount;
            case 1: return books.lawCount;
            case 2: return books.standing();
            case 3: return tapeLength;
            case 9: return books.inForce;
            default: return NONE;
        }
    }

    public int status() {
        return latestRefusal;
    }

    // ---- helpers ----

    private int refuse(int why) {
        latestRefusal = why;
        // there is no refusal by -4, so the two below it move up by one
        refusals[why >= CANNOT_BE ? -1 - why : -2 - why]++;
        return why;
    }

    private int done(int answer) {
        latestRefusal = 0;
        changes++;
        return answer;
    }

    private static boolean within(int value, int least, int most) {
        return value >= least && value <= most;
    }

    private void putOnTape(int four) {
        for (int shift = 24; shift >= 0 && tapeLength < TAPE; shift -= 8) {
            tape[tapeLength] = four >>> shift & 255;
            tapeLength++;
        }
    }

    private static boolean fits(Thing it, int like) {
        return within(like, 0, likenessesOf(it.wide, it.tall) - 1);
    }

    private Paper paperOf(int thing) {
        Thing it = books.thingAt(thing);
        if (it == null) {
            return null;
        }
        papers[thing].copy(it);
        return papers[thing];
    }

    private Paper paperFor(int thing, int like) {
        Thing it = books.thingAt(thing);
        return it != null && fits(it, like) ? paperOf(thing) : null;
    }

    private void layOut() {
        for (int t = 0; t < books.thingCount; t++) {
            papers[t].copy(books.things[t]);
        }
    }

    private void handOver(Paper paper) {
        clerk.open(paper, books.lawAt(books.inForce), books.terms[DAY], books.terms[SLACK]);
    }

    /** Asks the papers as they lie there, so that daubed ones can be asked too. */
    private int owedByAll(Law law, int day) {
        int sum = 0;
        for (int t = 0; t < books.thingCount; t++) {
            clerk.open(papers[t], law, day, books.terms[SLACK]);
            sum += clerk.owed();
        }
        return sum;
    }

    private boolean seekFillings(int thing, int parts, int sum) {
        if (!within(parts, LEAST_FILLED, MOST_FILLED) || !within(sum, 0, MOST_SUM)) {
            return false;
        }
        if (filling.isOf(thing, parts, sum, changes)) {
            return true;
        }
        Paper paper = paperOf(thing);
        if (paper == null) {
            return false;
        }
        handOver(paper);
        filling.findHoles(books.things[thing]);
        filling.prepare(clerk, paper, parts, sum);
        filling.fillFrom(0);
        filling.keepFor(thing, changes);
        return true;
    }

    private void seekBest() {
        if (way.seenAt == changes) {
            return;
        }
        layOut();
        way.survey(books, papers);
        way.seek();
        way.seenAt = changes;
    }

    private static int nextDraw(int drawn) {
        return (drawn * 1103 + 12345) % 1_000_003;
    }

    private static int cellIn(int wide, int tall, int x, int y) {
        return within(x, 0, wide - 1) && within(y, 0, tall - 1) ? y * wide + x : NONE;
    }

    private static int likenessesOf(int wide, int tall) {
        return wide == tall ? LIKENESSES : PLAIN_LIKENESSES;
    }

    /** To which cell (y times wide and x) a likeness or form takes x, y; all forms are told so. */
    private static int takenTo(int form, int x, int y, int wide, int tall) {
        int farX = wide - 1 - x;
        int farY = tall - 1 - y;
        switch (form) {
            case 0: return y * wide + farX;
            case 1: return farY * wide + x;
            case 2: return farY * wide + farX;
            case 3: return x * wide + y;
            case 4: return farX * wide + farY;
            case QUARTER_TURN: return x * wide + farY;
            case QUARTER_BACK: return farX * wide + y;
            default: return y * wide + x;
        }
    }

    // ---- what is kept ----

    private static final class Thing {
        int wide = 1;
        int tall = 1;
        int owner = 0;
        int place = NONE;
        final int[] cells = new int[CELLS];
        final int[] holes = new int[CELLS];

        void begin(int newWide, int newTall, int newOwner) {
            wide = newWide;
            tall = newTall;
            owner = newOwner;
            place = NONE;
            Arrays.fill(cells, 0);
            Arrays.fill(holes, 0);
        }

        void copy(Thing other) {
            wide = other.wide;
            tall = other.tall;
            owner = other.owner;
            place = other.place;
            System.arraycopy(other.cells, 0, cells, 0, CELLS);
            System.arraycopy(other.holes, 0, holes, 0, CELLS);
        }

        int area() {
            return wide * tall;
        }

        int holeCount() {
            int sum = 0;
            for (int cell = 0; cell < area(); cell++) {
                sum += holes[cell];
            }
            return sum;
        }

        int unlikeParts() {
            int seen = 0;
            for (int cell = 0; cell < area(); cell++) {
                seen |= 1 << cells[cell];
            }
            return Integer.bitCount(seen);
        }
    }

    /** All that an image keeps, and no more. */
    private static final class Books {
        final Thing[] things = new Thing[THINGS];
        int thingCount = 0;
        final Law[] laws = new Law[LAWS];
        int lawCount = 0;
        int inForce = NONE;
        final int[] terms = new int[TERMS];

        Books() {
            for (int t = 0; t < THINGS; t++) {
                things[t] = new Thing();
            }
            System.arraycopy(FIRST_TERMS, 0, terms, 0, TERMS);
        }

        void copy(Books other) {
            thingCount = other.thingCount;
            lawCount = other.lawCount;
            inForce = other.inForce;
            for (int t = 0; t < THINGS; t++) {
                things[t].copy(other.things[t]);
            }
            for (int l = 0; l < LAWS; l++) {
                laws[l] = other.laws[l];
            }
            System.arraycopy(other.terms, 0, terms, 0, TERMS);
        }

        Thing thingAt(int number) {
            return within(number, 0, thingCount - 1) ? things[number] : null;
        }

        int cellOf(int number, int x, int y) {
            Thing it = thingAt(number);
            return it == null ? NONE : cellIn(it.wide, it.tall, x, y);
        }

        boolean hasLaw(int number) {
            return within(number, 0, lawCount - 1);
        }

        /** Null for NONE: a law without clauses needs no object. */
        Law lawAt(int number) {
            return hasLaw(number) ? laws[number] : null;
        }

        int standingIn(int place) {
            for (int t = 0; t < thingCount; t++) {
                if (place != NONE && things[t].place == place) {
                    return t;
                }
            }
            return NONE;
        }

        int standing() {
            int sum = 0;
            for (int t = 0; t < thingCount; t++) {
                if (things[t].place != NONE) {
                    sum++;
                }
            }
            return sum;
        }
    }

    /** A thing on paper: its offs are kept up to date while cells are put, so that trials are cheap. */
    private static final class Paper {
        int wide = 0;
        int tall = 0;
        int owner = 0;
        int unlike = 0;
        int likenesses = 0;
        final int[] cells = new int[CELLS];
        final int[] offs = new int[LIKENESSES];
        final int[] times = new int[PARTS];
        final int[] ring = new int[PARTS];
        final int[][] to = new int[FORMS][CELLS];

        void copy(Thing it) {
            if (wide != it.wide || tall != it.tall) {
                wide = it.wide;
                tall = it.tall;
                likenesses = likenessesOf(wide, tall);
                drawWays();
            }
            owner = it.owner;
            System.arraycopy(it.cells, 0, cells, 0, CELLS);
            countParts();
            for (int like = 0; like < likenesses; like++) {
                offs[like] = countOff(like);
            }
        }

        private void drawWays() {
            for (int form = 0; form < FORMS; form++) {
                // ways of forms that it can't have would lead out of it
                int drawn = hasForm(form) ? form : AS_IT_IS;
                for (int y = 0; y < tall; y++) {
                    for (int x = 0; x < wide; x++) {
                        to[form][y * wide + x] = takenTo(drawn, x, y, wide, tall);
                    }
                }
            }
        }

        private void countParts() {
            Arrays.fill(times, 0);
            unlike = 0;
            int area = area();
            for (int cell = 0; cell < area; cell++) {
                int part = cells[cell];
                if (times[part] == 0) {
                    unlike++;
                }
                times[part]++;
            }
        }

        private int countOff(int like) {
            int[] taken = to[like];
            int area = area();
            int sum = 0;
            for (int cell = 0; cell < area; cell++) {
                if (cells[cell] != cells[taken[cell]]) {
                    sum++;
                }
            }
            return sum;
        }

        int area() {
            return wide * tall;
        }

        boolean hasForm(int form) {
            return form == AS_IT_IS
                    || within(form, 0, likenesses - 1)
                    || form == QUARTER_BACK && wide == tall;
        }

        void put(int cell, int part) {
            int after = unlikeWith(cell, part);
            for (int like = 0; like < likenesses; like++) {
                offs[like] = offWith(like, cell, part);
            }
            unlike = after;
            times[cells[cell]]--;
            times[part]++;
            cells[cell] = part;
        }

        int unlikeWith(int cell, int part) {
            int old = cells[cell];
            if (old == part) {
                return unlike;
            }
            return unlike - (times[old] == 1 ? 1 : 0) + (times[part] == 0 ? 1 : 0);
        }

        int offWith(int like, int cell, int part) {
            int ahead = to[like][cell];
            if (ahead == cell) {
                return offs[like];
            }
            int old = cells[cell];
            int next = cells[ahead];
            // likenesses but the quarter turn take a cell to where it is taken from
            int last = like == QUARTER_TURN ? cells[to[QUARTER_BACK][cell]] : next;
            return offs[like]
                    + (part == next ? 0 : 1) + (part == last ? 0 : 1)
                    - (old == next ? 0 : 1) - (old == last ? 0 : 1);
        }

        /** Four steps go round each ring a whole number of times, so that they weigh its cells alike. */
        int mostOfRing(int like, int cell) {
            Arrays.fill(ring, 0);
            int at = cell;
            for (int step = 0; step < LONGEST_RING; step++) {
                ring[cells[at]]++;
                at = to[like][at];
            }
            int most = 0;
            for (int part = 1; part < PARTS; part++) {
                if (ring[part] > ring[most]) {
                    most = part;
                }
            }
            return most;
        }

        int formsAs(Thing other) {
            int bits = 0;
            for (int form = 0; form < FORMS; form++) {
                if (isFormOf(form, other)) {
                    bits |= 1 << form;
                }
            }
            return bits;
        }

        boolean isFormOf(int form, Thing other) {
            if (other.wide != wide || other.tall != tall || !hasForm(form)) {
                return false;
            }
            int[] taken = to[form];
            int area = area();
            for (int cell = 0; cell < area; cell++) {
                if (other.cells[cell] != cells[taken[cell]]) {
                    return false;
                }
            }
            return true;
        }
    }

    // ---- laws ----

    /** A law as it was read: steps on a stack, clause behind clause; it is never changed. */
    private static final class Law {
        static final int NUMBER = 0;
        static final int FACT = 1;
        static final int PLUS = 2;
        static final int MINUS = 3;
        static final int TIMES = 4;
        static final int OVER = 5;
        static final int LESS = 6;
        static final int MORE = 7;
        static final int SAME = 8;
        static final int NOT = 9;
        static final int OR = 10;
        static final int AND = 11;
        static final int CLAUSES = 12;

        final int clauses;
        /** Where the steps of each clause begin; one more tells where the last ones end. */
        final int[] starts;
        final boolean[] spares;
        final boolean[] tested;
        final int[] steps;
        final int[] with;

        Law(Reader read) {
            clauses = read.clauses;
            starts = Arrays.copyOf(read.starts, clauses + 1);
            spares = new boolean[clauses];
            tested = new boolean[clauses];
            System.arraycopy(read.spares, 0, spares, 0, clauses);
            System.arraycopy(read.tested, 0, tested, 0, clauses);
            steps = Arrays.copyOf(read.steps, read.size);
            with = Arrays.copyOf(read.with, read.size);
        }
    }

    /** Goes through the steps of a law. */
    private static final class Machine {
        static final int LIKE = 0;
        static final int OFF = 1;
        static final int WIDE = 2;
        static final int TALL = 3;
        static final int AREA = 4;
        static final int OWNER = 5;
        static final int TODAY = 6;
        static final int UNLIKE = 7;
        static final int FACTS = 8;
        private static final int LIMIT = 1_000_000_000;
        private static final int BEYOND = LIMIT + 1;
        private static final int MOST_TAX = 999;
        private static final int PLAIN_TAX = 10;
        /** Eight brackets within one another leave some twenty numbers open. */
        private static final int DEEPEST = 64;

        final int[] facts = new int[FACTS];
        private final int[] stack = new int[DEEPEST];
        private int top = 0;
        private boolean broken = false;

        int taxOf(Law law) {
            int told = PLAIN_TAX;
            if (law == null) {
                return told;
            }
            for (int c = 0; c < law.clauses; c++) {
                if (holds(law, c)) {
                    if (law.spares[c]) {
                        return 0;
                    }
                    told = Math.max(0, Math.min(stack[0], MOST_TAX));
                }
            }
            return told;
        }

        /** What is broken and asked for breaks its whole clause, so the first break ends it. */
        private boolean holds(Law law, int clause) {
            top = 0;
            broken = false;
            int at = law.starts[clause];
            int end = law.starts[clause + 1];
            while (at < end && !broken) {
                int step = law.steps[at];
                int with = law.with[at];
                at++;
                if (step == Law.NUMBER) {
                    push(with);
                } else if (step == Law.FACT) {
                    push(facts[with]);
                } else if (step == Law.NOT) {
                    push(1 - pop());
                } else if (step == Law.OR || step == Law.AND) {
                    int so = pop();
                    // what decides all stays, else what stands behind takes its room
                    if (so == (step == Law.OR ? 1 : 0)) {
                        push(so);
                        at = Math.max(at, with);
                    }
                } else {
                    int right = pop();
                    push(combined(step, pop(), right));
                }
            }
            return !broken && (!law.tested[clause] || pop() == 1);
        }

        private void push(long value) {
            if (value < -LIMIT || value > LIMIT || top >= DEEPEST) {
                broken = true;
                return;
            }
            stack[top] = (int) value;
            top++;
        }

        private int pop() {
            if (top <= 0) {
                broken = true;
                return 0;
            }
            top--;
            return stack[top];
        }

        private static long combined(int step, long left, long right) {
            switch (step) {
                case Law.PLUS: return left + right;
                case Law.MINUS: return left - right;
                case Law.TIMES: return left * right;
                case Law.OVER: return right == 0 ? BEYOND : left / right;
                case Law.LESS: return left < right ? 1 : 0;
                case Law.MORE: return left > right ? 1 : 0;
                default: return left == right ? 1 : 0;
            }
        }
    }

    /** Reads a text into a law, or finds the place of its fault. */
    private static final class Reader {
        private static final int END = 0;
        private static final int DIGITS = 1;
        private static final int LETTERS = 2;
        private static final int SIGN = 3;
        private static final int MOST_NUMBER = 1000;
        private static final int MOST_PARTS = 50;
        private static final int MOST_BRACKETS = 8;
        private static final int TAX = 8;
        private static final int SPARES = 9;
        private static final int IF = 10;
        private static final int OR = 11;
        private static final int AND = 12;
        private static final int NOT = 13;
        private static final int WORDS = 14;

        private final int[] kinds = new int[TAPE + 1];
        private final int[] values = new int[TAPE + 1];
        private final int[] places = new int[TAPE + 1];
        private int tokens = 0;
        private int at = 0;
        private int parts = 0;
        int faultPlace = NONE;
        int clauses = 0;
        int size = 0;
        final int[] starts = new int[Law.CLAUSES + 1];
        final boolean[] spares = new boolean[Law.CLAUSES];
        final boolean[] tested = new boolean[Law.CLAUSES];
        final int[] steps = new int[TAPE + 1];
        final int[] with = new int[TAPE + 1];

        Law read(int[] text, int length) {
            split(text, length);
            at = 0;
            parts = 0;
            clauses = 0;
            size = 0;
            faultPlace = NONE;
            return readClauses() ? new Law(this) : null;
        }

        private void split(int[] text, int length) {
            tokens = 0;
            int from = 0;
            while (from < length) {
                int to = from + 1;
                int kind = kindOf(text[from]);
                while (kind != SIGN && to < length && kindOf(text[to]) == kind) {
                    to++;
                }
                if (text[from] != ' ') {
                    keep(kind, valueOf(kind, text, from, to), from);
                }
                from = to;
            }
            keep(END, 0, length);
        }

        private void keep(int kind, int value, int place) {
            if (tokens < kinds.length) {
                kinds[tokens] = kind;
                values[tokens] = value;
                places[tokens] = place;
                tokens++;
            }
        }

        private static int kindOf(int letter) {
            if (within(letter, 'a', 'z')) {
                return LETTERS;
            }
            return within(letter, '0', '9') ? DIGITS : SIGN;
        }

        private static int valueOf(int kind, int[] text, int from, int to) {
            if (kind == LETTERS) {
                return wordOf(text, from, to);
            }
            return kind == DIGITS ? numberOf(text, from, to) : text[from];
        }

        /** A number that is too high stays so, however long it is. */
        private static int numberOf(int[] text, int from, int to) {
            int number = 0;
            for (int i = from; i < to; i++) {
                number = Math.min(number * 10 + text[i] - '0', MOST_NUMBER + 1);
            }
            return number;
        }

        private static int wordOf(int[] text, int from, int to) {
            for (int word = 0; word < WORDS; word++) {
                if (isWord(wordText(word), text, from, to)) {
                    return word;
                }
            }
            return NONE;
        }

        private static boolean isWord(String word, int[] text, int from, int to) {
            if (word.length() != to - from) {
                return false;
            }
            for (int i = 0; i < word.length(); i++) {
                if (word.charAt(i) != text[from + i]) {
                    return false;
                }
            }
            return true;
        }

        private static String wordText(int word) {
            switch (word) {
                case Machine.LIKE: return "like";
                case Machine.OFF: return "off";
                case Machine.WIDE: return "wide";
                case Machine.TALL: return "tall";
                case Machine.AREA: return "area";
                case Machine.OWNER: return "owner";
                case Machine.TODAY: return "day";
                case Machine.UNLIKE: return "parts";
                case TAX: return "tax";
                case SPARES: return "spares";
                case IF: return "if";
                case OR: return "or";
                case AND: return "and";
                default: return "not";
            }
        }

        private boolean fail() {
            faultPlace = places[at];
            return false;
        }

        /** The end is never gone beyond: no look ahead asks for it, so it stays the last token. */
        private boolean accept(int kind, int value) {
            if (kinds[at] != kind || values[at] != value) {
                return false;
            }
            at++;
            return true;
        }

        private boolean expect(int sign) {
            if (kinds[at] != SIGN || values[at] != sign) {
                faultPlace = places[at];
                return false;
            }
            at++;
            return true;
        }

        private int emit(int step, int value) {
            // a token makes one step at most, so a whole tape of them finds room
            int here = size < TAPE ? size : TAPE;
            steps[here] = step;
            with[here] = value;
            size = here + 1;
            return here;
        }

        private boolean readClauses() {
            for (int n = 0; n < Law.CLAUSES; n++) {
                if (!readClause()) {
                    return false;
                }
                if (kinds[at] == END) {
                    return true;
                }
                if (!expect(';')) {
                    return false;
                }
            }
            return fail();
        }

        private boolean readClause() {
            if (clauses >= Law.CLAUSES) {
                return fail();
            }
            starts[clauses] = size;
            spares[clauses] = accept(LETTERS, SPARES);
            if (!spares[clauses]) {
                if (!accept(LETTERS, TAX)) {
                    return fail();
                }
                if (!readSum(0)) {
                    return false;
                }
            }
            tested[clauses] = accept(LETTERS, IF);
            if (tested[clauses] && !readTest(0)) {
                return false;
            }
            clauses++;
            starts[clauses] = size;
            return true;
        }

        private boolean readTest(int depth) {
            boolean well = readBoth(depth);
            for (int n = 0; n < TAPE && well && accept(LETTERS, OR); n++) {
                int leap = emit(Law.OR, 0);
                well = readBoth(depth);
                with[leap] = size;
            }
            return well;
        }

        private boolean readBoth(int depth) {
            boolean well = readPlain(depth);
            for (int n = 0; n < TAPE && well && accept(LETTERS, AND); n++) {
                int leap = emit(Law.AND, 0);
                well = readPlain(depth);
                with[leap] = size;
            }
            return well;
        }

        /** "not" is counted, not gone down into: a text has room for a hundred of them. */
        private boolean readPlain(int depth) {
            boolean turned = false;
            for (int n = 0; n < TAPE && accept(LETTERS, NOT); n++) {
                turned = !turned;
            }
            if (kinds[at] == SIGN && values[at] == '(') {
                if (depth >= MOST_BRACKETS) {
                    return fail();
                }
                at++;
                if (!readTest(depth + 1) || !expect(')')) {
                    return false;
                }
            } else if (!readComparison(depth)) {
                return false;
            }
            if (turned) {
                emit(Law.NOT, 0);
            }
            return true;
        }

        private boolean readComparison(int depth) {
            if (!readSum(depth)) {
                return false;
            }
            int step = Law.SAME;
            if (accept(SIGN, '<')) {
                step = Law.LESS;
            } else if (accept(SIGN, '>')) {
                step = Law.MORE;
            } else if (!expect('=')) {
                return false;
            }
            boolean well = readSum(depth);
            emit(step, 0);
            return well;
        }

        private boolean readSum(int depth) {
            boolean well = readTerm(depth);
            for (int n = 0; n < TAPE && well; n++) {
                boolean plus = accept(SIGN, '+');
                if (!plus && !accept(SIGN, '-')) {
                    return true;
                }
                well = readTerm(depth);
                emit(plus ? Law.PLUS : Law.MINUS, 0);
            }
            return well;
        }

        private boolean readTerm(int depth) {
            boolean well = readPart(depth);
            for (int n = 0; n < TAPE && well; n++) {
                boolean times = accept(SIGN, '*');
                if (!times && !accept(SIGN, '/')) {
                    return true;
                }
                well = readPart(depth);
                emit(times ? Law.TIMES : Law.OVER, 0);
            }
            return well;
        }

        private boolean readPart(int depth) {
            int value = values[at];
            if (kinds[at] == SIGN && value == '[') {
                if (depth >= MOST_BRACKETS) {
                    return fail();
                }
                at++;
                return readSum(depth + 1) && expect(']');
            }
            boolean number = kinds[at] == DIGITS && value <= MOST_NUMBER;
            boolean fact = kinds[at] == LETTERS && within(value, 0, Machine.FACTS - 1);
            if (!number && !fact || parts >= MOST_PARTS) {
                return fail();
            }
            parts++;
            at++;
            emit(number ? Law.NUMBER : Law.FACT, value);
            return true;
        }
    }

    /** Tells what a paper owes by a law on a day; all but like, off and unlike parts stay the while. */
    private static final class Clerk {
        private static final int OFFS = CELLS + 1;
        private static final int UNLIKES = PARTS + 1;
        private static final int TAX_BITS = 10;
        private static final int TAX_MASK = (1 << TAX_BITS) - 1;

        private final Machine machine = new Machine();
        private Paper paper = null;
        private Law law = null;
        private int slack = 0;
        private int stamp = 0;
        /** A tax and the stamp that it holds for in one number: two rows would take twice the room. */
        private final long[] notes = new long[LIKENESSES * OFFS * UNLIKES];

        void open(Paper newPaper, Law newLaw, int day, int newSlack) {
            paper = newPaper;
            law = newLaw;
            slack = newSlack;
            stamp++;
            machine.facts[Machine.WIDE] = paper.wide;
            machine.facts[Machine.TALL] = paper.tall;
            machine.facts[Machine.AREA] = paper.area();
            machine.facts[Machine.OWNER] = paper.owner;
            machine.facts[Machine.TODAY] = day;
        }

        /** Searches ask the same again and again: a law is gone through once for each answer. */
        int taxBy(int like, int off, int unlike) {
            int key = (like * OFFS + off) * UNLIKES + unlike;
            if (!within(key, 0, notes.length - 1)) {
                return 0;
            }
            if (notes[key] >> TAX_BITS != stamp) {
                machine.facts[Machine.LIKE] = like;
                machine.facts[Machine.OFF] = off;
                machine.facts[Machine.UNLIKE] = unlike;
                notes[key] = (long) stamp << TAX_BITS | machine.taxOf(law);
            }
            return (int) (notes[key] & TAX_MASK);
        }

        int owed() {
            if (paper == null) {
                return 0;
            }
            int sum = 0;
            for (int like = 0; like < paper.likenesses; like++) {
                if (paper.offs[like] <= slack) {
                    sum += taxBy(like, paper.offs[like], paper.unlike);
                }
            }
            return sum;
        }

        boolean owesNothingWith(int cell, int part) {
            if (paper == null) {
                return true;
            }
            int unlike = paper.unlikeWith(cell, part);
            for (int like = 0; like < paper.likenesses; like++) {
                int off = paper.offWith(like, cell, part);
                if (off <= slack && taxBy(like, off, unlike) > 0) {
                    return false;
                }
            }
            return true;
        }
    }

    // ---- searches ----

    /** The fewest cells painted with a part by which a thing owes nothing. */
    private static final class Freeing {
        private Clerk clerk = null;
        private Paper paper = null;
        private int ofThing = NONE;
        private int part = NONE;
        private int seenAt = NONE;
        private int wanted = 0;
        int fewest = NONE;
        int ways = 0;
        private final int[] chosen = new int[FREE_CELLS];
        final int[] first = new int[FREE_CELLS];

        boolean isOf(int thing, int byPart, int changes) {
            return ofThing == thing && part == byPart && seenAt == changes;
        }

        void keepFor(int thing, int changes) {
            ofThing = thing;
            seenAt = changes;
        }

        /** The clerk must have been handed the paper. */
        void seek(Clerk asked, Paper its, int byPart) {
            clerk = asked;
            paper = its;
            part = byPart;
            ways = clerk.owed() == 0 ? 1 : 0;
            wanted = 0;
            while (ways == 0 && wanted < FREE_CELLS) {
                wanted++;
                choose(0, 0);
            }
            fewest = ways > 0 ? wanted : NONE;
        }

        private void choose(int depth, int from) {
            if (clerk == null || paper == null || depth >= wanted) {
                return;
            }
            int area = paper.area();
            for (int cell = from; cell < area; cell++) {
                int had = paper.cells[cell];
                // to paint what has the part already is as if fewer were painted, which did not do
                if (had == part) {
                    continue;
                }
                chosen[depth] = cell;
                if (depth + 1 < wanted) {
                    paper.put(cell, part);
                    choose(depth + 1, cell + 1);
                    paper.put(cell, had);
                } else if (clerk.owesNothingWith(cell, part)) {
                    found();
                }
            }
        }

        private void found() {
            if (ways == 0) {
                System.arraycopy(chosen, 0, first, 0, FREE_CELLS);
            }
            ways++;
        }
    }

    /** All ways to fill the holes of a thing by which it owes a sum. */
    private static final class Filling {
        private Clerk clerk = null;
        private Paper paper = null;
        private int ofThing = NONE;
        private int parts = 0;
        private int sum = 0;
        private int seenAt = NONE;
        int ways = 0;
        private int holes = 0;
        private final int[] cells = new int[HOLES];
        private final int[] sures = new int[HOLES];

        boolean isOf(int thing, int ofParts, int ofSum, int changes) {
            return ofThing == thing && parts == ofParts && sum == ofSum && seenAt == changes;
        }

        void keepFor(int thing, int changes) {
            ofThing = thing;
            seenAt = changes;
        }

        void findHoles(Thing thing) {
            holes = 0;
            for (int cell = 0; cell < thing.area() && holes < HOLES; cell++) {
                if (thing.holes[cell] == 1) {
                    cells[holes] = cell;
                    holes++;
                }
            }
        }

        /** The clerk must have been handed the paper. */
        void prepare(Clerk asked, Paper its, int ofParts, int ofSum) {
            clerk = asked;
            paper = its;
            parts = ofParts;
            sum = ofSum;
            ways = 0;
        }

        void fillFrom(int hole) {
            if (clerk == null || paper == null) {
                return;
            }
            if (hole >= holes) {
                if (clerk.owed() == sum) {
                    found();
                }
                return;
            }
            for (int part = 0; part < parts; part++) {
                paper.put(cells[hole], part);
                fillFrom(hole + 1);
            }
        }

        private void found() {
            for (int hole = 0; hole < holes; hole++) {
                int part = paper.cells[cells[hole]];
                if (ways == 0) {
                    sures[hole] = part;
                } else if (sures[hole] != part) {
                    sures[hole] = NONE;
                }
            }
            ways++;
        }

        int sureAt(int cell) {
            for (int hole = 0; hole < holes; hole++) {
                if (cells[hole] == cell) {
                    return ways > 0 ? sures[hole] : NONE;
                }
            }
            return NONE;
        }
    }

    /** Twins along the street, and the best way to put its things. */
    private static final class Street {
        int seenAt = NONE;
        int pairs = 0;
        int least = 0;
        int ways = 0;
        private int size = 0;
        private int near = 0;
        private int price = 0;
        private final int[][] twins = new int[THINGS][THINGS];
        private final int[] places = new int[THINGS];
        private final int[] tried = new int[THINGS];
        private final int[] first = new int[THINGS];
        private final boolean[] waits = new boolean[THINGS];

        /** The papers must be those of all things. */
        void survey(Books books, Paper[] papers) {
            near = books.terms[NEAR];
            price = books.terms[TWIN];
            for (int a = 0; a < books.thingCount; a++) {
                for (int b = 0; b < books.thingCount; b++) {
                    twins[a][b] = papers[a].isFormOf(0, books.things[b]) ? 1 : 0;
                }
            }
            size = 0;
            pairs = 0;
            for (int t = 0; t < THINGS; t++) {
                waits[t] = false;
            }
            for (int place = 0; place < PLACES && size < THINGS; place++) {
                int there = books.standingIn(place);
                if (there != NONE) {
                    places[size] = place;
                    tried[size] = there;
                    waits[there] = true;
                    pairs += pairsBefore(size);
                    size++;
                }
            }
        }

        /** Twins among what is tried ahead of a seat and what is tried in it. */
        private int pairsBefore(int seat) {
            int sum = 0;
            for (int s = 0; s < seat; s++) {
                if (places[seat] - places[s] <= near) {
                    sum += twins[tried[s]][tried[seat]];
                }
            }
            return sum;
        }

        void seek() {
            ways = 0;
            least = 0;
            putFrom(0, 0);
        }

        private void putFrom(int seat, int owed) {
            // what is owed never falls as more are put
            if (ways > 0 && owed > least) {
                return;
            }
            if (seat >= size) {
                found(owed);
                return;
            }
            for (int t = 0; t < THINGS; t++) {
                if (waits[t]) {
                    waits[t] = false;
                    tried[seat] = t;
                    putFrom(seat + 1, owed + price * pairsBefore(seat));
                    waits[t] = true;
                }
            }
        }

        private void found(int owed) {
            if (ways == 0 || owed < least) {
                least = owed;
                ways = 0;
                System.arraycopy(tried, 0, first, 0, THINGS);
            }
            ways++;
        }

        int bestIn(int place) {
            for (int seat = 0; seat < size; seat++) {
                if (places[seat] == place) {
                    return first[seat];
                }
            }
            return NONE;
        }
    }

    /** What an inspector with a ruler sees: squares by how many of each part they have. */
    private static final class Ruler {
        private final int[] tallies = new int[CELLS * PARTS];

        /** The likeness must fit the thing, and the ruler be 1 at least. */
        int measure(Thing it, int like, int r) {
            int length = Math.max(1, r);
            int wide = (it.wide + length - 1) / length;
            int tall = (it.tall + length - 1) / length;
            tally(it, length, wide);
            int sum = 0;
            for (int y = 0; y < tall; y++) {
                for (int x = 0; x < wide; x++) {
                    if (!alike(y * wide + x, takenTo(like, x, y, wide, tall))) {
                        sum++;
                    }
                }
            }
            return sum;
        }

        private void tally(Thing it, int length, int wide) {
            Arrays.fill(tallies, 0);
            for (int y = 0; y < it.tall; y++) {
                for (int x = 0; x < it.wide; x++) {
                    int square = y / length * wide + x / length;
                    tallies[square * PARTS + it.cells[y * it.wide + x]]++;
                }
            }
        }

        private boolean alike(int square, int other) {
            for (int part = 0; part < PARTS; part++) {
                if (tallies[square * PARTS + part] != tallies[other * PARTS + part]) {
                    return false;
                }
            }
            return true;
        }
    }
}
