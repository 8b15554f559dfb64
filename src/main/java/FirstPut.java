import java.util.Arrays;

/** A bank of lines in which things lie that anybody may draw; the promises stand in ../shared/DOC.md. */
public final class FirstPut {
    public static final int BAD = -1, STATE = -2, FULL = -3, NONE = -4;

    private static final int PEOPLE = 4;
    private static final int MOST_THINGS = 10;
    private static final int MOST_LINES = 3;
    private static final int ROOM = 8;
    private static final int MOST_VISITS = 12;
    private static final int LAST_DAY = 99;
    private static final int MOST_WEIGHT = 9;
    private static final int MOST_VALUE = 20;
    private static final int SURE = 10;
    private static final int TAPE_BYTES = 480;

    private static final int ELDEST = 0;
    private static final int LATEST = 1;
    private static final int LIGHTEST = 2;

    /** Where a THING is: a ONE by his number, a LINE by this and its number. */
    private static final int IN_LINE = 10;
    /** Many calls ask for the i-th of something by this and i. */
    private static final int NTH = 10;

    private static final int MOST_OWN_DRAWS = 7;
    private static final int MOST_BY_CHANCE = 10;
    private static final int MOST_TURNS = 6;
    private static final int MOST_RUBBISH = 2;
    /** What a DUEL counts may be below 0, so it is told with this. */
    private static final int EVEN_DUEL = 1000;
    private static final int MOST_ORDERED = 7;
    private static final int MOST_NOTED = 8;
    private static final int IMAGES = 2;
    private static final int SHEETS = 4;
    private static final int LANES = 3;
    private static final int MOST_CELLS = 40;
    private static final int MOST_READ = 10;
    private static final int CELLS_OF_A_VISIT = 4;

    private static final int NO_FAULT = 0;
    private static final int NULL_FAULT = 1;
    private static final int INDEX_FAULT = 2;
    private static final int CAST_FAULT = 3;
    private static final int SIZE_FAULT = 4;
    /** The machine's FAULTS and the places of a text's FAULTS are told as this less them. */
    private static final int FAULT_BASE = -10;
    private static final int REFUSED_BASE = -20;

    private final byte[] tape = new byte[TAPE_BYTES];
    private int tapeLength;
    private final Reader reader = new Reader();
    private final Goods goods = new Goods();
    private final Places now = new Places();
    private final Visits visits = new Visits();
    private final Notes notes = new Notes();
    private final Runs runs = new Runs();
    private final Duel duelling = new Duel();
    private final Orders fitting = new Orders();
    private final Rings rings = new Rings();
    private final Image[] images = new Image[IMAGES];
    private final Sheet[] sheets = new Sheet[SHEETS];
    private int tornBy;

    public FirstPut() {
        for (int k = 0; k < IMAGES; k++) {
            images[k] = new Image();
        }
        for (int k = 0; k < SHEETS; k++) {
            sheets[k] = new Sheet();
        }
    }

    // ---- the text

    public int feed(long v) {
        if (tapeLength + 8 > TAPE_BYTES) {
            return FULL;
        }
        for (int i = 0; i < 8; i++) {
            tape[tapeLength + i] = (byte) (v >> (56 - 8 * i));
        }
        tapeLength += 8;
        return tapeLength;
    }

    public int end(int n) {
        if (n < 0 || n > tapeLength) {
            return BAD;
        }
        int had = tapeLength;
        tapeLength = n;
        return had;
    }

    public int bank() {
        int told = reader.readText(tape, tapeLength);
        tapeLength = 0;
        if (reader.fault != NO_FAULT) {
            return FAULT_BASE - reader.faultPlace;
        }
        goods.copyFrom(reader.goods);
        now.copyFrom(reader.places);
        visits.copyFrom(reader.visits);
        notes.size = 0;
        for (int k = 0; k < IMAGES; k++) {
            images[k].there = false;
        }
        return told;
    }

    public int fault() {
        return reader.fault;
    }

    public int thing(int t, int what) {
        if (!goods.hasThing(t)) {
            return BAD;
        }
        if (what >= NTH && what < NTH + PEOPLE) {
            return goods.valueTo(what - NTH, t);
        }
        switch (what) {
            case 0:
                return goods.weight[t];
            case 1:
                return now.where[t];
            case 2:
                return now.spotOf(t);
            case 3:
                return now.putBy[t];
            default:
                return BAD;
        }
    }

    public int line(int l, int what) {
        if (!goods.hasLine(l)) {
            return BAD;
        }
        if (what >= NTH && what < NTH + now.size[l]) {
            return now.lying[l * ROOM + what - NTH];
        }
        switch (what) {
            case 0:
                return goods.kind[l];
            case 1:
                return now.size[l];
            case 2:
                return now.gives(goods, l);
            default:
                return BAD;
        }
    }

    public int visit(int i, int what) {
        if (!visits.has(i)) {
            return BAD;
        }
        switch (what) {
            case 0:
                return visits.day[i];
            case 1:
                return visits.who[i];
            case 2:
                return visits.at[i];
            case 3:
                return visits.brings[i];
            default:
                return BAD;
        }
    }

    public int chance(int v) {
        if (v < 0 || v > SURE) {
            return BAD;
        }
        int was = goods.chanceOfTen;
        goods.chanceOfTen = v;
        return was;
    }

    public int holds(int p) {
        return isOne(p) ? now.heldBy(p) : BAD;
    }

    public int worth(int p) {
        return isOne(p) ? now.worthTo(goods, p) : BAD;
    }

    // ---- by hand

    public int put(int p, int t, int l) {
        if (!isOne(p) || !goods.hasThing(t) || !goods.hasLine(l)) {
            return BAD;
        }
        if (now.where[t] != p) {
            return STATE;
        }
        return now.append(p, t, l) ? now.size[l] - 1 : FULL;
    }

    public int draw(int p, int l) {
        if (!isOne(p) || !goods.hasLine(l)) {
            return BAD;
        }
        return now.giveTo(goods, p, l);
    }

    public int slip(int t, int l, int i) {
        if (!goods.hasThing(t) || !goods.hasLine(l) || i < 0 || i > now.size[l]) {
            return BAD;
        }
        if (!isOne(now.where[t])) {
            return STATE;
        }
        return now.insert(t, l, i) ? now.size[l] : FULL;
    }

    public int come(int day, int p, int l, int t) {
        return tellVisit(day, p, l, t);
    }

    public int cut(int n) {
        if (n < 0 || n > visits.size) {
            return BAD;
        }
        int were = visits.size;
        visits.size = n;
        return were;
    }

    public int go(int n) {
        if (n < 0 || n > visits.size) {
            return BAD;
        }
        int inVain = 0;
        for (int i = 0; i < n; i++) {
            if (!visits.happens(goods, now, i)) {
                inVain++;
            }
        }
        visits.dropFirst(n);
        return inVain;
    }

    // ---- runs

    public int after(int n, int t) {
        if (n < 0 || n > visits.size || !goods.hasThing(t)) {
            return BAD;
        }
        return runs.behind(goods, visits, now, n).where[t];
    }

    public int gains(int n, int p) {
        if (n < 0 || n > visits.size || !isOne(p)) {
            return BAD;
        }
        return runs.behind(goods, visits, now, n).worthTo(goods, p);
    }

    public int vain() {
        Places run = runs.behind(goods, visits, now, 0);
        int inVain = 0;
        for (int i = 0; i < visits.size; i++) {
            if (!visits.happens(goods, run, i)) {
                inVain |= 1 << i;
            }
        }
        return inVain;
    }

    public int lost(int p) {
        if (!isOne(p)) {
            return BAD;
        }
        Places run = runs.behind(goods, visits, now, 0);
        int his = now.heldBy(p);
        for (int i = 0; i < visits.size; i++) {
            boolean came = visits.happens(goods, run, i);
            if (came && visits.who[i] == p && !visits.isDraw(i)) {
                his |= 1 << visits.brings[i];
            }
        }
        int others = 0;
        for (int q = 0; q < PEOPLE; q++) {
            if (q != p) {
                others |= run.heldBy(q);
            }
        }
        return his & others;
    }

    public int since(int p, int t) {
        if (!isOne(p) || !goods.hasThing(t)) {
            return BAD;
        }
        if (now.where[t] == p) {
            return STATE;
        }
        Places run = runs.behind(goods, visits, now, 0);
        for (int i = 0; i < visits.size; i++) {
            visits.happens(goods, run, i);
            if (run.where[t] == p) {
                return i;
            }
        }
        return NONE;
    }

    // ---- one more

    public int extra(int p, int l, int what) {
        if (!isOne(p) || !goods.hasLine(l) || !isWithin(what, 1)) {
            return BAD;
        }
        Places run = runs.behind(goods, visits, now, 0);
        int greatest = NONE;
        int place = NONE;
        for (int i = 0; i <= visits.size; i++) {
            int t = run.gives(goods, l);
            if (t != NONE && goods.valueTo(p, t) > greatest) {
                greatest = goods.valueTo(p, t);
                place = i;
            }
            visits.happens(goods, run, i);
        }
        return what == 0 ? greatest : place;
    }

    public int aim(int t, int what) {
        if (!goods.hasThing(t) || !isWithin(what, 1)) {
            return BAD;
        }
        Places run = runs.behind(goods, visits, now, 0);
        for (int i = 0; i <= visits.size; i++) {
            for (int l = 0; l < goods.lines; l++) {
                if (run.gives(goods, l) == t) {
                    return what == 0 ? i : l;
                }
            }
            visits.happens(goods, run, i);
        }
        return NONE;
    }

    public int trick(int p, int rubbish, int t, int what) {
        if (!isOne(p) || !goods.hasThing(rubbish) || !goods.hasThing(t) || t == rubbish || !isWithin(what, 2)) {
            return BAD;
        }
        if (now.where[rubbish] != p) {
            return STATE;
        }
        for (int i = 0; i <= visits.size; i++) {
            runs.tryTrick(goods, visits, now, i, rubbish);
            for (int j = i; j <= visits.size; j++) {
                int l = runs.lineTrickedOf(goods, t);
                if (l != NONE) {
                    return what == 0 ? i : what == 1 ? j : l;
                }
                runs.goOnWithTrick(goods, visits, j);
            }
        }
        return NONE;
    }

    public int most(int p, int what) {
        boolean ofVisit = what >= NTH && visits.has(what - NTH);
        if (!isOne(p) || (what != 0 && !ofVisit)) {
            return BAD;
        }
        if (goods.lines == 0 || visits.drawsOf(p) > MOST_OWN_DRAWS) {
            return STATE;
        }
        runs.findMost(goods, visits, now, p);
        return ofVisit ? runs.bestLine[what - NTH] : runs.bestWorth;
    }

    public long odds(int l, int t, int what) {
        if (!goods.hasLine(l) || !goods.hasThing(t) || !isWithin(what, 1)) {
            return BAD;
        }
        if (visits.size > MOST_BY_CHANCE) {
            return STATE;
        }
        long whole = runs.findShares(goods, visits, now, l);
        long share = runs.share[t];
        long common = greatestDivisor(whole, share);
        // whole is above 0, so the common divisor is too; the test is for the division's sake
        if (common <= 0) {
            return STATE;
        }
        return what == 0 ? share / common : whole / common;
    }

    public int likeliest(int l) {
        if (!goods.hasLine(l)) {
            return BAD;
        }
        if (visits.size > MOST_BY_CHANCE) {
            return STATE;
        }
        runs.findShares(goods, visits, now, l);
        long greatest = 0;
        int likely = NONE;
        for (int t = 0; t < goods.things; t++) {
            if (runs.share[t] > greatest) {
                greatest = runs.share[t];
                likely = t;
            }
        }
        return likely;
    }

    // ---- two by turns

    public int duel(int l, int p, int q, int r, int n, int what) {
        if (!goods.hasLine(l) || !isOne(p) || !isOne(q) || p == q) {
            return BAD;
        }
        if (!isWithin(r, MOST_RUBBISH) || n < 1 || n > MOST_TURNS || !isWithin(what, 1)) {
            return BAD;
        }
        duelling.prepare(now, l, p, q, r, n);
        int counts = duelling.fight(goods, goods.kind[l]);
        return what == 0 ? counts + EVEN_DUEL : duelling.firstDoes;
    }

    // ---- orders, rings

    public int noted(int t) {
        if (!goods.hasThing(t)) {
            return BAD;
        }
        if (notes.spotOf(t) != NONE) {
            return STATE;
        }
        return notes.add(t) ? notes.size : FULL;
    }

    public int forget() {
        int were = notes.size;
        notes.size = 0;
        return were;
    }

    public int orders(int l, int what) {
        boolean nth = what >= NTH && what < NTH + ROOM;
        if (!goods.hasLine(l) || (what != 0 && !nth)) {
            return BAD;
        }
        if (now.size[l] > MOST_ORDERED) {
            return STATE;
        }
        fitting.prepare(goods, now, l);
        if (!nth) {
            return fitting.howMany(goods, notes);
        }
        if (!fitting.canFit(goods, notes) || what - NTH >= now.size[l]) {
            return NONE;
        }
        fitting.findFirst(goods, notes);
        return fitting.first[what - NTH];
    }

    public int ring(int p) {
        if (!isOne(p)) {
            return BAD;
        }
        rings.form(goods, now);
        return rings.gets[p];
    }

    public int with(int p) {
        if (!isOne(p)) {
            return BAD;
        }
        rings.form(goods, now);
        return rings.mates[p];
    }

    public int join(int p) {
        if (!isOne(p)) {
            return BAD;
        }
        int greatest = NONE;
        int best = NONE;
        for (int l = 0; l < goods.lines; l++) {
            int t = now.gives(goods, l);
            if (t != NONE && goods.valueTo(p, t) > greatest) {
                greatest = goods.valueTo(p, t);
                best = l;
            }
        }
        return best;
    }

    // ---- images, sheets

    public int keep(int k) {
        if (!isWithin(k, IMAGES - 1)) {
            return BAD;
        }
        Image image = images[k];
        int was = image.there ? 1 : 0;
        image.there = true;
        image.places.copyFrom(now);
        image.visits.copyFrom(visits);
        image.notes.copyFrom(notes);
        return was;
    }

    public int back(int k) {
        if (!isWithin(k, IMAGES - 1)) {
            return BAD;
        }
        Image image = images[k];
        if (!image.there) {
            return STATE;
        }
        now.copyFrom(image.places);
        visits.copyFrom(image.visits);
        notes.copyFrom(image.notes);
        return visits.size;
    }

    public int sheet(int k, int lane, int n) {
        if (!isWithin(k, SHEETS - 1) || !isWithin(lane, LANES - 1) || n > MOST_CELLS) {
            return BAD;
        }
        if (n < 0) {
            return FAULT_BASE - SIZE_FAULT;
        }
        sheets[k].renew(lane, n);
        return 1;
    }

    public int lay(int k, int i, int v) {
        if (!isWithin(k, SHEETS - 1)) {
            return BAD;
        }
        Sheet sheet = sheets[k];
        if (!sheet.isThere()) {
            return FAULT_BASE - NULL_FAULT;
        }
        if (!sheet.has(i)) {
            return FAULT_BASE - INDEX_FAULT;
        }
        sheet.write(i, v);
        return 1;
    }

    public int read(int k, int lane, int f, int n) {
        if (!isWithin(k, SHEETS - 1) || !isWithin(lane, LANES - 1) || !isWithin(n, MOST_READ)) {
            return BAD;
        }
        Sheet sheet = sheets[k];
        int taken = n == 0 ? NO_FAULT : sheet.faultTakenAs(lane);
        if (taken != NO_FAULT) {
            tornBy = taken;
            return 0;
        }
        int were = visits.size;
        for (int i = 0; i < n; i++) {
            if (!sheet.hasVisit(f, i)) {
                tornBy = INDEX_FAULT;
                return i;
            }
            if (tellVisitOf(sheet, f + i * CELLS_OF_A_VISIT) < 0) {
                visits.size = were;
                return REFUSED_BASE - i;
            }
        }
        tornBy = NO_FAULT;
        return n;
    }

    public int torn() {
        return tornBy;
    }

    public int count(int what) {
        switch (what) {
            case 0:
                return goods.things;
            case 1:
                return goods.lines;
            case 2:
                return visits.size;
            case 3:
                return notes.size;
            case 4:
                return (images[0].there ? 1 : 0) + (images[1].there ? 1 : 0);
            case 5:
                return tapeLength;
            case 6:
                return sheets[0].size;
            default:
                return BAD;
        }
    }

    // ---- helpers

    private static boolean isOne(int p) {
        return p >= 0 && p < PEOPLE;
    }

    private static boolean isWithin(int n, int greatest) {
        return n >= 0 && n <= greatest;
    }

    private int tellVisit(int day, int p, int l, int t) {
        if (!isWithin(day, LAST_DAY) || !isOne(p) || !goods.hasLine(l) || (t != NONE && !goods.hasThing(t))) {
            return BAD;
        }
        if (day < visits.lastDay()) {
            return BAD;
        }
        return visits.add(day, p, l, t) ? visits.size : FULL;
    }

    /** Asked only where the SHEET has all four CELLS from here on. */
    private int tellVisitOf(Sheet sheet, int from) {
        return tellVisit(sheet.cell[from], sheet.cell[from + 1], sheet.cell[from + 2], sheet.cell[from + 3]);
    }

    /** Euclid's steps on numbers up to 10^10 are fewer than fifty. */
    private static long greatestDivisor(long a, long b) {
        long larger = a;
        long smaller = b;
        for (int i = 0; i < 100 && smaller > 0; i++) {
            long rest = larger % smaller;
            larger = smaller;
            smaller = rest;
        }
        return larger;
    }

    /** The place in the row, counted from its start, of what a LINE of that KIND gives; some lie there. */
    private static int givenSpot(Goods goods, int kind, int[] row, int from, int lie) {
        if (kind == ELDEST) {
            return 0;
        }
        if (kind == LATEST) {
            return lie - 1;
        }
        int lightest = 0;
        for (int i = 1; i < lie; i++) {
            if (goods.weight[row[from + i]] < goods.weight[row[from + lightest]]) {
                lightest = i;
            }
        }
        return lightest;
    }

    /** What a text alone tells and no VISIT changes. */
    private static final class Goods {
        /** Stands behind all THINGS in the rows, so that a DUEL's RUBBISH weighs 0 and has no VALUE. */
        static final int RUBBISH = MOST_THINGS;

        int things;
        int lines;
        int chanceOfTen = SURE;
        final int[] weight = new int[MOST_THINGS + 1];
        final int[] value = new int[(MOST_THINGS + 1) * PEOPLE];
        final int[] kind = new int[MOST_LINES];

        void clear() {
            things = 0;
            lines = 0;
            chanceOfTen = SURE;
        }

        void copyFrom(Goods other) {
            things = other.things;
            lines = other.lines;
            chanceOfTen = other.chanceOfTen;
            System.arraycopy(other.weight, 0, weight, 0, weight.length);
            System.arraycopy(other.value, 0, value, 0, value.length);
            System.arraycopy(other.kind, 0, kind, 0, kind.length);
        }

        boolean hasThing(int t) {
            return t >= 0 && t < things;
        }

        boolean hasLine(int l) {
            return l >= 0 && l < lines;
        }

        int valueTo(int p, int t) {
            return value[t * PEOPLE + p];
        }
    }

    /** Where THINGS are, and how they lie. */
    private static final class Places {
        final int[] where = new int[MOST_THINGS];
        final int[] putBy = new int[MOST_THINGS];
        final int[] size = new int[MOST_LINES];
        final int[] lying = new int[MOST_LINES * ROOM];

        Places() {
            Arrays.fill(where, NONE);
            Arrays.fill(putBy, NONE);
        }

        void clear() {
            Arrays.fill(where, NONE);
            Arrays.fill(putBy, NONE);
            Arrays.fill(size, 0);
        }

        void copyFrom(Places other) {
            System.arraycopy(other.where, 0, where, 0, where.length);
            System.arraycopy(other.putBy, 0, putBy, 0, putBy.length);
            System.arraycopy(other.size, 0, size, 0, size.length);
            System.arraycopy(other.lying, 0, lying, 0, lying.length);
        }

        int heldBy(int p) {
            int held = 0;
            for (int t = 0; t < MOST_THINGS; t++) {
                if (where[t] == p) {
                    held |= 1 << t;
                }
            }
            return held;
        }

        int leastHeldBy(int p) {
            for (int t = 0; t < MOST_THINGS; t++) {
                if (where[t] == p) {
                    return t;
                }
            }
            return NONE;
        }

        int worthTo(Goods goods, int p) {
            int sum = 0;
            for (int t = 0; t < goods.things; t++) {
                if (where[t] == p) {
                    sum += goods.valueTo(p, t);
                }
            }
            return sum;
        }

        int spotOf(int t) {
            int l = where[t] - IN_LINE;
            if (l < 0 || l >= MOST_LINES) {
                return NONE;
            }
            for (int i = 0; i < size[l]; i++) {
                if (lying[l * ROOM + i] == t) {
                    return i;
                }
            }
            return NONE;
        }

        int gives(Goods goods, int l) {
            if (size[l] == 0) {
                return NONE;
            }
            return lying[l * ROOM + givenSpot(goods, goods.kind[l], lying, l * ROOM, size[l])];
        }

        /** The THING that the ONE gets. */
        int giveTo(Goods goods, int p, int l) {
            if (size[l] == 0) {
                return NONE;
            }
            int from = l * ROOM;
            int spot = givenSpot(goods, goods.kind[l], lying, from, size[l]);
            int t = lying[from + spot];
            size[l]--;
            for (int i = spot; i < size[l]; i++) {
                lying[from + i] = lying[from + i + 1];
            }
            where[t] = p;
            putBy[t] = NONE;
            return t;
        }

        /** Whether he HOLDS it and there is room. */
        boolean append(int p, int t, int l) {
            return where[t] == p && insert(t, l, size[l]);
        }

        /** Whether there is room; who HOLDS it has put it in then. */
        boolean insert(int t, int l, int spot) {
            if (size[l] >= ROOM) {
                return false;
            }
            int from = l * ROOM;
            for (int i = size[l]; i > spot; i--) {
                lying[from + i] = lying[from + i - 1];
            }
            lying[from + spot] = t;
            size[l]++;
            putBy[t] = where[t];
            where[t] = IN_LINE + l;
            return true;
        }
    }

    private static final class Visits {
        int size;
        final int[] day = new int[MOST_VISITS];
        final int[] who = new int[MOST_VISITS];
        final int[] at = new int[MOST_VISITS];
        final int[] brings = new int[MOST_VISITS];

        void copyFrom(Visits other) {
            size = other.size;
            System.arraycopy(other.day, 0, day, 0, day.length);
            System.arraycopy(other.who, 0, who, 0, who.length);
            System.arraycopy(other.at, 0, at, 0, at.length);
            System.arraycopy(other.brings, 0, brings, 0, brings.length);
        }

        boolean has(int i) {
            return i >= 0 && i < size;
        }

        boolean isDraw(int i) {
            return brings[i] == NONE;
        }

        boolean isDrawOf(int p, int i) {
            return who[i] == p && isDraw(i);
        }

        int drawsOf(int p) {
            int draws = 0;
            for (int i = 0; i < size; i++) {
                if (isDrawOf(p, i)) {
                    draws++;
                }
            }
            return draws;
        }

        int lastDay() {
            return size == 0 ? 0 : day[size - 1];
        }

        boolean add(int dayTold, int p, int l, int t) {
            if (size >= MOST_VISITS) {
                return false;
            }
            day[size] = dayTold;
            who[size] = p;
            at[size] = l;
            brings[size] = t;
            size++;
            return true;
        }

        void dropFirst(int n) {
            for (int i = n; i < size; i++) {
                day[i - n] = day[i];
                who[i - n] = who[i];
                at[i - n] = at[i];
                brings[i - n] = brings[i];
            }
            size -= n;
        }

        /** Whether there is a VISIT i and it is not in VAIN. */
        boolean happens(Goods goods, Places places, int i) {
            if (!has(i)) {
                return false;
            }
            if (isDraw(i)) {
                return places.giveTo(goods, who[i], at[i]) != NONE;
            }
            return places.append(who[i], brings[i], at[i]);
        }
    }

    /** THINGS that were drawn, one behind another. */
    private static final class Notes {
        int size;
        final int[] drawn = new int[MOST_NOTED];

        void copyFrom(Notes other) {
            size = other.size;
            System.arraycopy(other.drawn, 0, drawn, 0, drawn.length);
        }

        int spotOf(int t) {
            for (int i = 0; i < size; i++) {
                if (drawn[i] == t) {
                    return i;
                }
            }
            return NONE;
        }

        boolean add(int t) {
            if (size >= MOST_NOTED) {
                return false;
            }
            drawn[size] = t;
            size++;
            return true;
        }
    }

    private static final class Image {
        boolean there;
        final Places places = new Places();
        final Visits visits = new Visits();
        final Notes notes = new Notes();
    }

    private static final class Sheet {
        private static final int BYTES = 0;
        private static final int SHORTS = 1;

        int lane;
        int size = NONE;
        final int[] cell = new int[MOST_CELLS];

        boolean isThere() {
            return size != NONE;
        }

        boolean has(int i) {
            return i >= 0 && i < size;
        }

        /** The first CELL is looked at alone ahead of the sum, which could wrap around. */
        boolean hasVisit(int from, int i) {
            return has(from) && has(from + (i + 1) * CELLS_OF_A_VISIT - 1);
        }

        int faultTakenAs(int laneTaken) {
            if (!isThere()) {
                return NULL_FAULT;
            }
            return lane == laneTaken ? NO_FAULT : CAST_FAULT;
        }

        void renew(int newLane, int cells) {
            lane = newLane;
            size = cells;
            Arrays.fill(cell, 0);
        }

        void write(int i, int v) {
            if (lane == BYTES) {
                cell[i] = (byte) v;
            } else if (lane == SHORTS) {
                cell[i] = (short) v;
            } else {
                cell[i] = v;
            }
        }
    }

    /** RUNS by themselves: none of them changes what there is now. */
    private static final class Runs {
        /** A row for what there is behind each VISIT of a search, used again by each call. */
        private final Places[] stage = new Places[MOST_VISITS + 1];
        private final Places[] tricked = new Places[MOST_LINES];
        private final boolean[] open = new boolean[MOST_LINES];

        int bestWorth;
        final int[] bestLine = new int[MOST_VISITS];
        private final int[] triedLine = new int[MOST_VISITS];
        final long[] share = new long[MOST_THINGS];

        Runs() {
            for (int i = 0; i <= MOST_VISITS; i++) {
                stage[i] = new Places();
            }
            for (int l = 0; l < MOST_LINES; l++) {
                tricked[l] = new Places();
            }
        }

        /** What there is behind the first n VISITS. */
        Places behind(Goods goods, Visits visits, Places now, int n) {
            Places run = stage[0];
            run.copyFrom(now);
            for (int i = 0; i < n; i++) {
                visits.happens(goods, run, i);
            }
            return run;
        }

        /** At place i the RUBBISH goes into each LINE that it can go into, each in a RUN of its own. */
        void tryTrick(Goods goods, Visits visits, Places now, int i, int rubbish) {
            Places run = behind(goods, visits, now, i);
            for (int l = 0; l < goods.lines; l++) {
                tricked[l].copyFrom(run);
                open[l] = tricked[l].append(now.where[rubbish], rubbish, l);
            }
        }

        void goOnWithTrick(Goods goods, Visits visits, int j) {
            for (int l = 0; l < goods.lines; l++) {
                if (open[l]) {
                    visits.happens(goods, tricked[l], j);
                }
            }
        }

        int lineTrickedOf(Goods goods, int t) {
            for (int l = 0; l < goods.lines; l++) {
                if (open[l] && tricked[l].gives(goods, l) == t) {
                    return l;
                }
            }
            return NONE;
        }

        /** The greatest WORTH, if his DRAWS could be from whichever LINE, and the first such LINES. */
        void findMost(Goods goods, Visits visits, Places now, int p) {
            stage[0].copyFrom(now);
            bestWorth = NONE;
            Arrays.fill(triedLine, NONE);
            tryLines(goods, visits, p, 0);
        }

        /** There are at most 12 VISITS, so it goes no deeper. */
        private void tryLines(Goods goods, Visits visits, int p, int i) {
            if (i >= MOST_VISITS || i >= visits.size) {
                takeIfBetter(stage[i].worthTo(goods, p));
                return;
            }
            if (!visits.isDrawOf(p, i)) {
                stage[i + 1].copyFrom(stage[i]);
                visits.happens(goods, stage[i + 1], i);
                tryLines(goods, visits, p, i + 1);
                return;
            }
            for (int l = 0; l < goods.lines; l++) {
                stage[i + 1].copyFrom(stage[i]);
                stage[i + 1].giveTo(goods, p, l);
                triedLine[i] = l;
                tryLines(goods, visits, p, i + 1);
            }
        }

        private void takeIfBetter(int worth) {
            if (worth > bestWorth) {
                bestWorth = worth;
                System.arraycopy(triedLine, 0, bestLine, 0, bestLine.length);
            }
        }

        /** BY CHANCE: of the whole, which it answers, the share of each THING that the LINE gives. */
        long findShares(Goods goods, Visits visits, Places now, int l) {
            stage[0].copyFrom(now);
            Arrays.fill(share, 0L);
            spread(goods, visits, l, 0, 1L);
            long whole = 1;
            for (int i = 0; i < visits.size; i++) {
                whole *= SURE;
            }
            return whole;
        }

        /** There are at most 12 VISITS, so it goes no deeper. */
        private void spread(Goods goods, Visits visits, int l, int i, long part) {
            if (part == 0) {
                return;
            }
            if (i >= MOST_VISITS || i >= visits.size) {
                int t = stage[i].gives(goods, l);
                if (t != NONE) {
                    share[t] += part;
                }
                return;
            }
            stage[i + 1].copyFrom(stage[i]);
            visits.happens(goods, stage[i + 1], i);
            spread(goods, visits, l, i + 1, part * goods.chanceOfTen);
            stage[i + 1].copyFrom(stage[i]);
            spread(goods, visits, l, i + 1, part * (SURE - goods.chanceOfTen));
        }
    }

    /** Two who draw by turns. */
    private static final class Duel {
        private static final int DRAWS = 0;
        private static final int PUTS = 1;
        private static final int DEEDS = 3;

        private int turns;
        int firstDoes;
        private final int[] player = new int[2];
        private final int[] rubbishLeft = new int[2];
        private final int[][] row = new int[MOST_TURNS + 1][ROOM];
        private final int[] lie = new int[MOST_TURNS + 1];

        void prepare(Places now, int l, int p, int q, int r, int n) {
            System.arraycopy(now.lying, l * ROOM, row[0], 0, ROOM);
            lie[0] = now.size[l];
            player[0] = p;
            player[1] = q;
            rubbishLeft[0] = r;
            rubbishLeft[1] = r;
            turns = n;
        }

        int fight(Goods goods, int kind) {
            return outcome(goods, kind, 0);
        }

        /** What counts from this turn on; there are at most 6 turns, so it goes no deeper. */
        private int outcome(Goods goods, int kind, int turn) {
            if (turn >= MOST_TURNS || turn >= turns) {
                return 0;
            }
            int mover = turn % 2;
            boolean any = false;
            int best = 0;
            for (int deed = 0; deed < DEEDS; deed++) {
                if (!canDo(deed, turn, mover)) {
                    continue;
                }
                int gain = perform(goods, kind, deed, turn, mover);
                int counts = gain + outcome(goods, kind, turn + 1);
                takeBack(deed, mover);
                if (!any || (mover == 0 ? counts > best : counts < best)) {
                    any = true;
                    best = counts;
                    noteFirst(turn, deed);
                }
            }
            return best;
        }

        private boolean canDo(int deed, int turn, int mover) {
            return deed != PUTS || (rubbishLeft[mover] > 0 && lie[turn] < ROOM);
        }

        /** The next turn's row is as the deed leaves it; the answer is what it counts. */
        private int perform(Goods goods, int kind, int deed, int turn, int mover) {
            System.arraycopy(row[turn], 0, row[turn + 1], 0, ROOM);
            lie[turn + 1] = lie[turn];
            if (deed == PUTS) {
                row[turn + 1][lie[turn]] = Goods.RUBBISH;
                lie[turn + 1]++;
                rubbishLeft[mover]--;
            }
            if (deed != DRAWS || lie[turn] == 0) {
                return 0;
            }
            int value = goods.valueTo(player[mover], takeGiven(goods, kind, turn + 1));
            return mover == 0 ? value : -value;
        }

        private int takeGiven(Goods goods, int kind, int turn) {
            int[] lying = row[turn];
            int spot = givenSpot(goods, kind, lying, 0, lie[turn]);
            int t = lying[spot];
            lie[turn]--;
            for (int i = spot; i < lie[turn]; i++) {
                lying[i] = lying[i + 1];
            }
            return t;
        }

        private void takeBack(int deed, int mover) {
            if (deed == PUTS) {
                rubbishLeft[mover]++;
            }
        }

        private void noteFirst(int turn, int deed) {
            if (turn == 0) {
                firstDoes = deed;
            }
        }
    }

    /**
     * In which ORDERS what lies in a LINE can lie, by what is NOTED. An eldest LINE gives as a lightest one
     * whose THINGS all weigh the same; a latest one gives as an eldest one read from behind.
     */
    private static final class Orders {
        private int kind;
        private int size;
        private final int[] member = new int[ROOM];
        private int placed;
        final int[] first = new int[ROOM];

        void prepare(Goods goods, Places now, int l) {
            kind = goods.kind[l];
            size = now.size[l];
            System.arraycopy(now.lying, l * ROOM, member, 0, ROOM);
        }

        private int weightThatCounts(Goods goods, int t) {
            return kind == LIGHTEST ? goods.weight[t] : 0;
        }

        private boolean isMember(int t) {
            for (int i = 0; i < size; i++) {
                if (member[i] == t) {
                    return true;
                }
            }
            return false;
        }

        /** Whether some ORDER FITS: all that is NOTED lies there, and none that stays is lighter. */
        boolean canFit(Goods goods, Notes notes) {
            for (int i = 0; i < notes.size; i++) {
                if (!isMember(notes.drawn[i]) || !isLightestBehind(goods, notes, i)) {
                    return false;
                }
            }
            return true;
        }

        private boolean isLightestBehind(Goods goods, Notes notes, int i) {
            int weight = weightThatCounts(goods, notes.drawn[i]);
            for (int j = 0; j < size; j++) {
                int spot = notes.spotOf(member[j]);
                boolean drawnAhead = spot != NONE && spot < i;
                if (!drawnAhead && weightThatCounts(goods, member[j]) < weight) {
                    return false;
                }
            }
            return true;
        }

        /** Of c that weigh the same, the first n drawn are fixed: one of c * (c - 1) * .. (n factors) ORDERS FITS. */
        int howMany(Goods goods, Notes notes) {
            if (!canFit(goods, notes)) {
                return 0;
            }
            int many = 1;
            for (int i = 2; i <= size; i++) {
                many *= i;
            }
            for (int i = 0; i < notes.size; i++) {
                int choices = choicesAt(goods, notes, i);
                if (choices > 0) {
                    many /= choices;
                }
            }
            return many;
        }

        /** Those that could have been drawn as the i-th: they weigh as much, and were not drawn ahead of it. */
        private int choicesAt(Goods goods, Notes notes, int i) {
            int weight = weightThatCounts(goods, notes.drawn[i]);
            int choices = 0;
            for (int j = 0; j < size; j++) {
                int spot = notes.spotOf(member[j]);
                boolean drawnAhead = spot != NONE && spot < i;
                if (!drawnAhead && weightThatCounts(goods, member[j]) == weight) {
                    choices++;
                }
            }
            return choices;
        }

        /** Each time the least that may stand there: whichever may, the others can follow. */
        void findFirst(Goods goods, Notes notes) {
            placed = 0;
            for (int spot = 0; spot < size; spot++) {
                int least = NONE;
                for (int j = 0; j < size; j++) {
                    int t = member[j];
                    boolean less = least == NONE || t < least;
                    if (less && !isPlaced(t) && mayStand(goods, notes, t, spot)) {
                        least = t;
                    }
                }
                first[spot] = least;
                if (least != NONE) {
                    placed |= 1 << least;
                }
            }
        }

        private boolean isPlaced(int t) {
            return (placed & 1 << t) != 0;
        }

        private boolean mayStand(Goods goods, Notes notes, int t, int spot) {
            if (kind == LATEST) {
                int drawn = notes.spotOf(t);
                return drawn == NONE || spot == size - 1 - drawn;
            }
            for (int i = 0; i < notes.size; i++) {
                int ahead = notes.drawn[i];
                if (ahead == t) {
                    return true;
                }
                if (!isPlaced(ahead) && weightThatCounts(goods, ahead) == weightThatCounts(goods, t)) {
                    return false;
                }
            }
            return true;
        }
    }

    /** RINGS in which each gets what he would have. */
    private static final class Rings {
        final int[] gets = new int[PEOPLE];
        final int[] mates = new int[PEOPLE];
        private final int[] brought = new int[PEOPLE];
        private final int[] pointsTo = new int[PEOPLE];
        private int there;

        /** Each round a ring goes, so there are no more rounds than PEOPLE. */
        void form(Goods goods, Places now) {
            gather(now);
            for (int round = 0; round < PEOPLE; round++) {
                point(goods);
                int leaving = 0;
                for (int p = 0; p < PEOPLE; p++) {
                    leaving |= takeIfInRing(p);
                }
                there &= ~leaving;
            }
        }

        private void gather(Places now) {
            there = 0;
            for (int p = 0; p < PEOPLE; p++) {
                gets[p] = NONE;
                mates[p] = NONE;
                brought[p] = now.leastHeldBy(p);
                if (brought[p] != NONE) {
                    there |= 1 << p;
                }
            }
        }

        private boolean isThere(int p) {
            return (there & 1 << p) != 0;
        }

        private void point(Goods goods) {
            for (int p = 0; p < PEOPLE; p++) {
                int liked = NONE;
                for (int q = 0; q < PEOPLE; q++) {
                    if (isThere(q) && (liked == NONE || likesBetter(goods, p, brought[q], brought[liked]))) {
                        liked = q;
                    }
                }
                pointsTo[p] = liked;
            }
        }

        private static boolean likesBetter(Goods goods, int p, int t, int than) {
            int more = goods.valueTo(p, t) - goods.valueTo(p, than);
            return more > 0 || (more == 0 && t < than);
        }

        /** His bit, if he is there and in a ring. */
        private int takeIfInRing(int p) {
            if (!isThere(p)) {
                return 0;
            }
            int met = 0;
            int q = p;
            for (int step = 0; step < PEOPLE; step++) {
                met |= 1 << q;
                q = pointsTo[q];
                if (q == p) {
                    gets[p] = brought[pointsTo[p]];
                    mates[p] = met;
                    return 1 << p;
                }
            }
            return 0;
        }
    }

    /** Reads a text into rows of its own, so that a text with a FAULT leaves all as it was. */
    private static final class Reader {
        private static final int END = 0;
        private static final int NAME = 1;
        private static final int NUMBER = 2;
        private static final int STOP = 3;
        private static final int MOST_FIGURES = 2;

        private static final int NO_TOKEN = 1;
        private static final int OUT_OF_PLACE = 2;
        private static final int OUT_OF_BOUNDS = 3;
        private static final int TWICE = 4;
        private static final int TOO_MANY = 5;
        private static final int NOT_THERE = 6;

        final Goods goods = new Goods();
        final Places places = new Places();
        final Visits visits = new Visits();
        int fault;
        int faultPlace;

        private byte[] text = new byte[0];
        private int length;
        private int next;
        private int token;
        private int start;
        private int number;
        private int lying;
        private boolean chanceTold;

        /** How many lines it has; whether it is taken, the FAULT tells. */
        int readText(byte[] tape, int tapeLength) {
            text = tape;
            length = tapeLength;
            next = 0;
            fault = NO_FAULT;
            lying = 0;
            chanceTold = false;
            goods.clear();
            places.clear();
            visits.size = 0;
            int told = 0;
            // each line takes a byte at least
            for (int i = 0; i <= length; i++) {
                if (!step() || token == END || !readLine()) {
                    break;
                }
                told++;
            }
            if (fault == NO_FAULT) {
                settle();
            }
            return told;
        }

        private boolean refuse(int why, int place) {
            fault = why;
            faultPlace = place;
            return false;
        }

        private static boolean isLetter(int sign) {
            return sign >= 'a' && sign <= 'z';
        }

        private static boolean isFigure(int sign) {
            return sign >= '0' && sign <= '9';
        }

        /** Reads the next TOKEN. */
        private boolean step() {
            while (next < length && text[next] == ' ') {
                next++;
            }
            start = next;
            if (next >= length) {
                token = END;
                return true;
            }
            if (isLetter(text[next])) {
                token = NAME;
                while (next < length && isLetter(text[next])) {
                    next++;
                }
                return true;
            }
            if (isFigure(text[next])) {
                token = NUMBER;
                number = 0;
                while (next < length && isFigure(text[next])) {
                    // the wrap-around of a number of many figures is never seen: it is refused
                    number = number * 10 + text[next] - '0';
                    next++;
                }
                return next - start <= MOST_FIGURES || refuse(NO_TOKEN, start);
            }
            token = STOP;
            next++;
            return text[start] == ';' || refuse(NO_TOKEN, start);
        }

        private boolean isWord(String word) {
            if (token != NAME || next - start != word.length()) {
                return false;
            }
            for (int i = 0; i < word.length(); i++) {
                if (text[start + i] != word.charAt(i)) {
                    return false;
                }
            }
            return true;
        }

        private boolean readLine() {
            if (isWord("thing")) {
                return readThing();
            }
            if (isWord("line")) {
                return readLineOfThings();
            }
            if (isWord("put")) {
                return readVisit(true);
            }
            if (isWord("draw")) {
                return readVisit(false);
            }
            if (isWord("chance")) {
                return readChance();
            }
            return refuse(OUT_OF_PLACE, start);
        }

        /** The next TOKEN is a NUMBER within these bounds. */
        private boolean readNumber(int least, int greatest) {
            if (!step()) {
                return false;
            }
            if (token != NUMBER) {
                return refuse(OUT_OF_PLACE, start);
            }
            return (number >= least && number <= greatest) || refuse(OUT_OF_BOUNDS, start);
        }

        private boolean readStop() {
            return step() && (token == STOP || refuse(OUT_OF_PLACE, start));
        }

        private boolean readThing() {
            int t = goods.things;
            if (t >= MOST_THINGS) {
                return refuse(TOO_MANY, start);
            }
            if (!readNumber(0, PEOPLE - 1)) {
                return false;
            }
            places.where[t] = number;
            if (!readNumber(0, MOST_WEIGHT)) {
                return false;
            }
            goods.weight[t] = number;
            for (int p = 0; p < PEOPLE; p++) {
                if (!readNumber(0, MOST_VALUE)) {
                    return false;
                }
                goods.value[t * PEOPLE + p] = number;
            }
            goods.things++;
            return readStop();
        }

        private int kindRead() {
            if (isWord("eldest")) {
                return ELDEST;
            }
            if (isWord("latest")) {
                return LATEST;
            }
            return isWord("lightest") ? LIGHTEST : NONE;
        }

        private boolean readLineOfThings() {
            int l = goods.lines;
            if (l >= MOST_LINES) {
                return refuse(TOO_MANY, start);
            }
            if (!step()) {
                return false;
            }
            int kind = kindRead();
            if (kind == NONE) {
                return refuse(OUT_OF_PLACE, start);
            }
            goods.kind[l] = kind;
            goods.lines++;
            for (int i = 0; i <= ROOM; i++) {
                if (!step()) {
                    return false;
                }
                if (token == STOP) {
                    return true;
                }
                if (!takeLying(l)) {
                    return false;
                }
            }
            return false;
        }

        /** The TOKEN is a THING that can lie last in the LINE. */
        private boolean takeLying(int l) {
            if (token != NUMBER) {
                return refuse(OUT_OF_PLACE, start);
            }
            if (number >= MOST_THINGS) {
                return refuse(OUT_OF_BOUNDS, start);
            }
            if ((lying & 1 << number) != 0) {
                return refuse(TWICE, start);
            }
            if (places.size[l] >= ROOM) {
                return refuse(TOO_MANY, start);
            }
            lying |= 1 << number;
            places.lying[l * ROOM + places.size[l]] = number;
            places.size[l]++;
            return true;
        }

        private boolean readVisit(boolean puts) {
            if (visits.size >= MOST_VISITS) {
                return refuse(TOO_MANY, start);
            }
            if (!readNumber(visits.lastDay(), LAST_DAY)) {
                return false;
            }
            int day = number;
            if (!readNumber(0, PEOPLE - 1)) {
                return false;
            }
            int p = number;
            if (!readNumber(0, MOST_LINES - 1)) {
                return false;
            }
            int l = number;
            if (puts && !readNumber(0, MOST_THINGS - 1)) {
                return false;
            }
            visits.add(day, p, l, puts ? number : NONE);
            return readStop();
        }

        private boolean readChance() {
            if (chanceTold) {
                return refuse(TWICE, start);
            }
            chanceTold = true;
            if (!readNumber(0, SURE)) {
                return false;
            }
            goods.chanceOfTen = number;
            return readStop();
        }

        /** A line may name THINGS and LINES that are told behind it, so they are looked for at the end. */
        private void settle() {
            for (int l = 0; l < goods.lines; l++) {
                for (int i = 0; i < places.size[l]; i++) {
                    settleThing(places.lying[l * ROOM + i], l);
                }
            }
            for (int i = 0; i < visits.size; i++) {
                boolean thingThere = visits.isDraw(i) || goods.hasThing(visits.brings[i]);
                if (!thingThere || !goods.hasLine(visits.at[i])) {
                    refuse(NOT_THERE, length);
                }
            }
        }

        private void settleThing(int t, int l) {
            if (!goods.hasThing(t)) {
                refuse(NOT_THERE, length);
                return;
            }
            places.putBy[t] = places.where[t];
            places.where[t] = IN_LINE + l;
        }
    }
}
