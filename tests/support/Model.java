import java.math.BigInteger;
import java.util.ArrayList;
import java.util.Arrays;
import java.util.List;
import java.util.regex.Matcher;
import java.util.regex.Pattern;

/** The document said once more, as plainly and as slowly as may be, to set FirstPut's answers against. */
final class Model {
    static final int BAD = -1, STATE = -2, FULL = -3, NONE = -4;

    record Thing(int weight, int[] value) {
    }

    record Visit(int day, int who, int line, int thing) {
    }

    /** Where THINGS are; a holder of -1 means that it lies in a LINE. */
    static final class World {
        final List<Integer> holder = new ArrayList<>();
        final List<Integer> putter = new ArrayList<>();
        final List<List<Integer>> lines = new ArrayList<>();

        World copy() {
            World w = new World();
            w.holder.addAll(holder);
            w.putter.addAll(putter);
            for (List<Integer> row : lines) {
                w.lines.add(new ArrayList<>(row));
            }
            return w;
        }
    }

    record Snapshot(World world, List<Visit> visits, List<Integer> noted) {
    }

    final StringBuilder tape = new StringBuilder();
    int lastFault = 0;
    int lastTorn = 0;
    int chance = 10;
    List<Thing> things = new ArrayList<>();
    List<Integer> kinds = new ArrayList<>();
    World world = new World();
    List<Visit> visits = new ArrayList<>();
    List<Integer> noted = new ArrayList<>();
    final Snapshot[] images = new Snapshot[2];
    final Object[] sheets = new Object[4];

    // ---- the text

    int feed(long v) {
        if (tape.length() > 472) {
            return FULL;
        }
        for (int i = 7; i >= 0; i--) {
            tape.append((char) (v >>> (8 * i) & 255));
        }
        return tape.length();
    }

    int end(int n) {
        if (n < 0 || n > tape.length()) {
            return BAD;
        }
        int had = tape.length();
        tape.setLength(n);
        return had;
    }

    private static final class Fault extends RuntimeException {
        private static final long serialVersionUID = 1L;
        final int kind;
        final int place;

        Fault(int kind, int place) {
            this.kind = kind;
            this.place = place;
        }
    }

    /** TOKENS are matched one by one, when they are asked for. */
    private static final class Tokens {
        private static final Pattern TOKEN = Pattern.compile(" *([a-z]+|[0-9]+|;|$)");
        final String text;
        int at = 0;
        int place;
        String token;

        Tokens(String text) {
            this.text = text;
        }

        String take() {
            Matcher m = TOKEN.matcher(text).region(at, text.length());
            if (!m.lookingAt()) {
                int from = at;
                while (text.charAt(from) == ' ') {
                    from++;
                }
                throw new Fault(1, from);
            }
            token = m.group(1);
            place = m.start(1);
            at = m.end();
            if (token.matches("[0-9]{3,}")) {
                throw new Fault(1, place);
            }
            return token;
        }

        int number(int least, int greatest) {
            take();
            if (!token.matches("[0-9]+")) {
                throw new Fault(2, place);
            }
            int n = Integer.parseInt(token);
            if (n < least || n > greatest) {
                throw new Fault(3, place);
            }
            return n;
        }

        void stop() {
            if (!take().equals(";")) {
                throw new Fault(2, place);
            }
        }
    }

    private static int parse(String text, Model into) {
        Tokens in = new Tokens(text);
        List<List<Integer>> rows = new ArrayList<>();
        List<Integer> used = new ArrayList<>();
        boolean chanceTold = false;
        int count = 0;
        while (!in.take().isEmpty()) {
            count++;
            switch (in.token) {
                case "thing" -> {
                    if (into.things.size() == 10) {
                        throw new Fault(5, in.place);
                    }
                    into.world.holder.add(in.number(0, 3));
                    into.world.putter.add(NONE);
                    int weight = in.number(0, 9);
                    int[] value = new int[4];
                    for (int p = 0; p < 4; p++) {
                        value[p] = in.number(0, 20);
                    }
                    into.things.add(new Thing(weight, value));
                    in.stop();
                }
                case "line" -> {
                    if (rows.size() == 3) {
                        throw new Fault(5, in.place);
                    }
                    int kind = List.of("eldest", "latest", "lightest").indexOf(in.take());
                    if (kind < 0) {
                        throw new Fault(2, in.place);
                    }
                    into.kinds.add(kind);
                    List<Integer> row = new ArrayList<>();
                    rows.add(row);
                    while (!in.take().equals(";")) {
                        if (!in.token.matches("[0-9]+")) {
                            throw new Fault(2, in.place);
                        }
                        int t = Integer.parseInt(in.token);
                        if (t > 9) {
                            throw new Fault(3, in.place);
                        }
                        if (used.contains(t)) {
                            throw new Fault(4, in.place);
                        }
                        if (row.size() == 8) {
                            throw new Fault(5, in.place);
                        }
                        used.add(t);
                        row.add(t);
                    }
                }
                case "put", "draw" -> {
                    boolean puts = in.token.equals("put");
                    int n = into.visits.size();
                    if (n == 12) {
                        throw new Fault(5, in.place);
                    }
                    int day = in.number(n == 0 ? 0 : into.visits.get(n - 1).day(), 99);
                    int who = in.number(0, 3);
                    int l = in.number(0, 2);
                    into.visits.add(new Visit(day, who, l, puts ? in.number(0, 9) : NONE));
                    in.stop();
                }
                case "chance" -> {
                    if (chanceTold) {
                        throw new Fault(4, in.place);
                    }
                    chanceTold = true;
                    into.chance = in.number(0, 10);
                    in.stop();
                }
                default -> throw new Fault(2, in.place);
            }
        }
        for (int t : used) {
            if (t >= into.things.size()) {
                throw new Fault(6, text.length());
            }
        }
        for (Visit v : into.visits) {
            if (v.thing() >= into.things.size() || v.line() >= rows.size()) {
                throw new Fault(6, text.length());
            }
        }
        into.world.lines.addAll(rows);
        for (int t : used) {
            into.world.putter.set(t, into.world.holder.get(t));
            into.world.holder.set(t, -1);
        }
        return count;
    }

    int bank() {
        String text = tape.toString();
        tape.setLength(0);
        Model fresh = new Model();
        try {
            int count = parse(text, fresh);
            lastFault = 0;
            things = fresh.things;
            kinds = fresh.kinds;
            world = fresh.world;
            visits = fresh.visits;
            chance = fresh.chance;
            noted = new ArrayList<>();
            Arrays.fill(images, null);
            return count;
        } catch (Fault f) {
            lastFault = f.kind;
            return -10 - f.place;
        }
    }

    int fault() {
        return lastFault;
    }

    private boolean one(int p) {
        return p >= 0 && p <= 3;
    }

    private boolean isThing(int t) {
        return t >= 0 && t < things.size();
    }

    boolean isLineThere(int l) {
        return isLine(l);
    }

    private boolean isLine(int l) {
        return l >= 0 && l < kinds.size();
    }

    private static int where(World w, int t) {
        for (int l = 0; l < w.lines.size(); l++) {
            if (w.lines.get(l).contains(t)) {
                return 10 + l;
            }
        }
        return w.holder.get(t);
    }

    int thing(int t, int what) {
        if (!isThing(t)) {
            return BAD;
        }
        int at = where(world, t);
        switch (what) {
            case 0: return things.get(t).weight();
            case 1: return at;
            case 2: return at < 10 ? NONE : world.lines.get(at - 10).indexOf(t);
            case 3: return at < 10 ? NONE : world.putter.get(t);
            case 10: case 11: case 12: case 13: return things.get(t).value()[what - 10];
            default: return BAD;
        }
    }

    /** What a row of THINGS gives; -1 is a DUEL's RUBBISH. */
    private int givenOf(int kind, List<Integer> row) {
        if (row.isEmpty()) {
            return NONE;
        }
        if (kind == 0) {
            return row.get(0);
        }
        if (kind == 1) {
            return row.get(row.size() - 1);
        }
        for (int w = 0; w <= 9; w++) {
            for (int t : row) {
                if ((t < 0 ? 0 : things.get(t).weight()) == w) {
                    return t;
                }
            }
        }
        throw new IllegalStateException();
    }

    int line(int l, int what) {
        if (!isLine(l)) {
            return BAD;
        }
        List<Integer> row = world.lines.get(l);
        switch (what) {
            case 0: return kinds.get(l);
            case 1: return row.size();
            case 2: return givenOf(kinds.get(l), row);
            default: return what >= 10 && what - 10 < row.size() ? row.get(what - 10) : BAD;
        }
    }

    int visit(int i, int what) {
        if (i < 0 || i >= visits.size() || what < 0 || what > 3) {
            return BAD;
        }
        Visit v = visits.get(i);
        return new int[] {v.day(), v.who(), v.line(), v.thing()}[what];
    }

    int chance(int v) {
        if (v < 0 || v > 10) {
            return BAD;
        }
        int was = chance;
        chance = v;
        return was;
    }

    private int held(World w, int p) {
        int bits = 0;
        for (int t = 0; t < things.size(); t++) {
            if (where(w, t) == p) {
                bits += 1 << t;
            }
        }
        return bits;
    }

    private int worthIn(World w, int p) {
        int sum = 0;
        for (int t = 0; t < things.size(); t++) {
            if ((held(w, p) >> t & 1) == 1) {
                sum += things.get(t).value()[p];
            }
        }
        return sum;
    }

    int holds(int p) {
        return one(p) ? held(world, p) : BAD;
    }

    int worth(int p) {
        return one(p) ? worthIn(world, p) : BAD;
    }

    // ---- by hand

    private boolean doPut(World w, int p, int t, int l) {
        if (where(w, t) != p || w.lines.get(l).size() == 8) {
            return false;
        }
        w.lines.get(l).add(t);
        w.putter.set(t, p);
        w.holder.set(t, -1);
        return true;
    }

    private int doDraw(World w, int p, int l) {
        int t = givenOf(kinds.get(l), w.lines.get(l));
        if (t != NONE) {
            w.lines.get(l).remove((Integer) t);
            w.holder.set(t, p);
        }
        return t;
    }

    private boolean doVisit(World w, Visit v) {
        return v.thing() == NONE ? doDraw(w, v.who(), v.line()) != NONE : doPut(w, v.who(), v.thing(), v.line());
    }

    int put(int p, int t, int l) {
        if (!one(p) || !isThing(t) || !isLine(l)) {
            return BAD;
        }
        if (where(world, t) != p) {
            return STATE;
        }
        return doPut(world, p, t, l) ? world.lines.get(l).indexOf(t) : FULL;
    }

    int draw(int p, int l) {
        return one(p) && isLine(l) ? doDraw(world, p, l) : BAD;
    }

    int slip(int t, int l, int i) {
        if (!isThing(t) || !isLine(l) || i < 0 || i > world.lines.get(l).size()) {
            return BAD;
        }
        int p = where(world, t);
        if (p >= 10) {
            return STATE;
        }
        if (world.lines.get(l).size() == 8) {
            return FULL;
        }
        world.lines.get(l).add(i, t);
        world.putter.set(t, p);
        world.holder.set(t, -1);
        return world.lines.get(l).size();
    }

    int come(int day, int p, int l, int t) {
        boolean good = day >= 0 && day <= 99 && one(p) && isLine(l) && (t == NONE || isThing(t));
        if (!good || (!visits.isEmpty() && visits.get(visits.size() - 1).day() > day)) {
            return BAD;
        }
        if (visits.size() == 12) {
            return FULL;
        }
        visits.add(new Visit(day, p, l, t));
        return visits.size();
    }

    int cut(int n) {
        int were = visits.size();
        if (n < 0 || n > were) {
            return BAD;
        }
        visits = new ArrayList<>(visits.subList(0, n));
        return were;
    }

    int go(int n) {
        if (n < 0 || n > visits.size()) {
            return BAD;
        }
        int inVain = 0;
        for (int i = 0; i < n; i++) {
            inVain += doVisit(world, visits.get(i)) ? 0 : 1;
        }
        visits = new ArrayList<>(visits.subList(n, visits.size()));
        return inVain;
    }

    // ---- runs

    private World behind(int n) {
        World w = world.copy();
        for (int i = 0; i < n; i++) {
            doVisit(w, visits.get(i));
        }
        return w;
    }

    int after(int n, int t) {
        return n < 0 || n > visits.size() || !isThing(t) ? BAD : where(behind(n), t);
    }

    int gains(int n, int p) {
        return n < 0 || n > visits.size() || !one(p) ? BAD : worthIn(behind(n), p);
    }

    int vain() {
        int bits = 0;
        for (int i = 0; i < visits.size(); i++) {
            if (!doVisit(behind(i), visits.get(i))) {
                bits += 1 << i;
            }
        }
        return bits;
    }

    int lost(int p) {
        if (!one(p)) {
            return BAD;
        }
        int bits = 0;
        World last = behind(visits.size());
        for (int t = 0; t < things.size(); t++) {
            boolean his = where(world, t) == p;
            for (int i = 0; i < visits.size(); i++) {
                Visit v = visits.get(i);
                his |= v.who() == p && v.thing() == t && (vain() >> i & 1) == 0;
            }
            int at = where(last, t);
            if (his && at < 10 && at != p) {
                bits += 1 << t;
            }
        }
        return bits;
    }

    int since(int p, int t) {
        if (!one(p) || !isThing(t)) {
            return BAD;
        }
        if (where(world, t) == p) {
            return STATE;
        }
        for (int i = 0; i < visits.size(); i++) {
            if (where(behind(i + 1), t) == p) {
                return i;
            }
        }
        return NONE;
    }

    // ---- one more

    int extra(int p, int l, int what) {
        if (!one(p) || !isLine(l) || what < 0 || what > 1) {
            return BAD;
        }
        for (int value = 20; value >= 0; value--) {
            for (int i = 0; i <= visits.size(); i++) {
                int t = doDraw(behind(i), p, l);
                if (t != NONE && things.get(t).value()[p] == value) {
                    return what == 0 ? value : i;
                }
            }
        }
        return NONE;
    }

    int aim(int t, int what) {
        if (!isThing(t) || what < 0 || what > 1) {
            return BAD;
        }
        for (int i = 0; i <= visits.size(); i++) {
            for (int l = 0; l < kinds.size(); l++) {
                if (doDraw(behind(i), 0, l) == t) {
                    return what == 0 ? i : l;
                }
            }
        }
        return NONE;
    }

    int trick(int p, int rubbish, int t, int what) {
        if (!one(p) || !isThing(rubbish) || !isThing(t) || rubbish == t || what < 0 || what > 2) {
            return BAD;
        }
        if (where(world, rubbish) != p) {
            return STATE;
        }
        for (int i = 0; i <= visits.size(); i++) {
            for (int j = i; j <= visits.size(); j++) {
                for (int l = 0; l < kinds.size(); l++) {
                    World w = behind(i);
                    if (!doPut(w, p, rubbish, l)) {
                        continue;
                    }
                    for (Visit v : visits.subList(i, j)) {
                        doVisit(w, v);
                    }
                    if (doDraw(w, p, l) == t) {
                        return new int[] {i, j, l}[what];
                    }
                }
            }
        }
        return NONE;
    }

    int most(int p, int what) {
        if (!one(p) || (what != 0 && (what < 10 || what - 10 >= visits.size()))) {
            return BAD;
        }
        List<Integer> draws = new ArrayList<>();
        for (int i = 0; i < visits.size(); i++) {
            if (visits.get(i).who() == p && visits.get(i).thing() == NONE) {
                draws.add(i);
            }
        }
        if (kinds.isEmpty() || draws.size() > 7) {
            return STATE;
        }
        int codes = 1;
        for (int k = 0; k < draws.size(); k++) {
            codes *= kinds.size();
        }
        int best = -1;
        int[] bestLines = null;
        for (int code = 0; code < codes; code++) {
            int[] lines = new int[visits.size()];
            Arrays.fill(lines, NONE);
            int rest = code;
            for (int k = draws.size() - 1; k >= 0; k--) {
                lines[draws.get(k)] = rest % kinds.size();
                rest /= kinds.size();
            }
            World w = world.copy();
            for (int i = 0; i < visits.size(); i++) {
                Visit v = visits.get(i);
                doVisit(w, lines[i] == NONE ? v : new Visit(v.day(), v.who(), lines[i], v.thing()));
            }
            if (worthIn(w, p) > best) {
                best = worthIn(w, p);
                bestLines = lines;
            }
        }
        return what == 0 ? best : bestLines[what - 10];
    }

    private BigInteger[] shares(int l) {
        BigInteger[] share = new BigInteger[10];
        Arrays.fill(share, BigInteger.ZERO);
        int n = visits.size();
        for (int set = 0; set < 1 << n; set++) {
            World w = world.copy();
            BigInteger part = BigInteger.ONE;
            for (int i = 0; i < n; i++) {
                boolean comes = (set >> i & 1) == 1;
                part = part.multiply(BigInteger.valueOf(comes ? chance : 10 - chance));
                if (comes) {
                    doVisit(w, visits.get(i));
                }
            }
            int t = doDraw(w, 0, l);
            if (t != NONE) {
                share[t] = share[t].add(part);
            }
        }
        return share;
    }

    long odds(int l, int t, int what) {
        if (!isLine(l) || !isThing(t) || what < 0 || what > 1) {
            return BAD;
        }
        if (visits.size() > 10) {
            return STATE;
        }
        BigInteger share = shares(l)[t];
        BigInteger whole = BigInteger.TEN.pow(visits.size());
        BigInteger common = share.gcd(whole);
        return (what == 0 ? share : whole).divide(common).longValueExact();
    }

    int likeliest(int l) {
        if (!isLine(l)) {
            return BAD;
        }
        if (visits.size() > 10) {
            return STATE;
        }
        BigInteger[] share = shares(l);
        int likely = NONE;
        for (int t = 0; t < 10; t++) {
            if (share[t].signum() > 0 && (likely == NONE || share[t].compareTo(share[likely]) > 0)) {
                likely = t;
            }
        }
        return likely;
    }

    // ---- two by turns

    /** What counts if the mover does the deed; null if he can not. */
    private Integer ifDone(int deed, int kind, List<Integer> row, int[] one, int[] left, int turn, int n) {
        List<Integer> then = new ArrayList<>(row);
        int[] leftThen = left.clone();
        int mover = turn % 2;
        int gain = 0;
        if (deed == 0 && !row.isEmpty()) {
            int t = givenOf(kind, row);
            // of several pieces of RUBBISH the first is the one given; a latest LINE gives the last
            then.remove(kind == 1 ? row.size() - 1 : row.indexOf(t));
            gain = t < 0 ? 0 : things.get(t).value()[one[mover]];
        }
        if (deed == 1) {
            if (left[mover] == 0 || row.size() == 8) {
                return null;
            }
            leftThen[mover]--;
            then.add(-1);
        }
        return (mover == 0 ? gain : -gain) + counts(kind, then, one, leftThen, turn + 1, n);
    }

    private int counts(int kind, List<Integer> row, int[] one, int[] left, int turn, int n) {
        if (turn == n) {
            return 0;
        }
        int best = turn % 2 == 0 ? -9999 : 9999;
        for (int deed = 0; deed < 3; deed++) {
            Integer c = ifDone(deed, kind, row, one, left, turn, n);
            if (c != null) {
                best = turn % 2 == 0 ? Math.max(best, c) : Math.min(best, c);
            }
        }
        return best;
    }

    int duel(int l, int p, int q, int r, int n, int what) {
        if (!isLine(l) || !one(p) || !one(q) || p == q || r < 0 || r > 2 || n < 1 || n > 6 || what < 0 || what > 1) {
            return BAD;
        }
        int best = -9999;
        int does = -1;
        for (int deed = 0; deed < 3; deed++) {
            Integer c = ifDone(deed, kinds.get(l), world.lines.get(l), new int[] {p, q}, new int[] {r, r}, 0, n);
            if (c != null && c > best) {
                best = c;
                does = deed;
            }
        }
        return what == 0 ? best + 1000 : does;
    }

    // ---- orders, rings

    int noted(int t) {
        if (!isThing(t)) {
            return BAD;
        }
        if (noted.contains(t)) {
            return STATE;
        }
        if (noted.size() == 8) {
            return FULL;
        }
        noted.add(t);
        return noted.size();
    }

    int forget() {
        int were = noted.size();
        noted = new ArrayList<>();
        return were;
    }

    private void permute(int kind, List<Integer> chosen, List<Integer> rest, List<List<Integer>> found) {
        if (rest.isEmpty()) {
            List<Integer> row = new ArrayList<>(chosen);
            for (int t : noted) {
                if (givenOf(kind, row) != t) {
                    return;
                }
                row.remove((Integer) t);
            }
            found.add(new ArrayList<>(chosen));
        }
        for (int i = 0; i < rest.size(); i++) {
            List<Integer> others = new ArrayList<>(rest);
            chosen.add(others.remove(i));
            permute(kind, chosen, others, found);
            chosen.remove(chosen.size() - 1);
        }
    }

    int orders(int l, int what) {
        if (!isLine(l) || (what != 0 && (what < 10 || what > 17))) {
            return BAD;
        }
        List<Integer> lie = new ArrayList<>(world.lines.get(l));
        if (lie.size() > 7) {
            return STATE;
        }
        lie.sort(null);
        List<List<Integer>> found = new ArrayList<>();
        permute(kinds.get(l), new ArrayList<>(), lie, found);
        if (what == 0) {
            return found.size();
        }
        return found.isEmpty() || what - 10 >= lie.size() ? NONE : found.get(0).get(what - 10);
    }

    /** For each ONE the THING he gets and who is in his ring; rings are found one at a time. */
    private int[][] rings() {
        int[][] out = {{NONE, NONE, NONE, NONE}, {NONE, NONE, NONE, NONE}};
        List<Integer> there = new ArrayList<>();
        int[] brought = new int[4];
        for (int p = 0; p < 4; p++) {
            brought[p] = Integer.numberOfTrailingZeros(held(world, p));
            if (held(world, p) != 0) {
                there.add(p);
            }
        }
        while (!there.isEmpty()) {
            List<Integer> path = new ArrayList<>();
            int at = there.get(0);
            while (!path.contains(at)) {
                path.add(at);
                int me = at;
                int best = there.get(0);
                for (int q : there) {
                    int more = things.get(brought[q]).value()[me] - things.get(brought[best]).value()[me];
                    if (more > 0 || (more == 0 && brought[q] < brought[best])) {
                        best = q;
                    }
                }
                at = best;
            }
            List<Integer> cycle = path.subList(path.indexOf(at), path.size());
            int bits = 0;
            for (int p : cycle) {
                bits += 1 << p;
            }
            for (int k = 0; k < cycle.size(); k++) {
                out[0][cycle.get(k)] = brought[cycle.get((k + 1) % cycle.size())];
                out[1][cycle.get(k)] = bits;
            }
            there.removeAll(new ArrayList<>(cycle));
        }
        return out;
    }

    int ring(int p) {
        return one(p) ? rings()[0][p] : BAD;
    }

    int with(int p) {
        return one(p) ? rings()[1][p] : BAD;
    }

    int join(int p) {
        if (!one(p)) {
            return BAD;
        }
        for (int value = 20; value >= 0; value--) {
            for (int l = 0; l < kinds.size(); l++) {
                int t = line(l, 2);
                if (t != NONE && things.get(t).value()[p] == value) {
                    return l;
                }
            }
        }
        return NONE;
    }

    // ---- images, sheets

    int keep(int k) {
        if (k < 0 || k > 1) {
            return BAD;
        }
        int was = images[k] == null ? 0 : 1;
        images[k] = new Snapshot(world.copy(), new ArrayList<>(visits), new ArrayList<>(noted));
        return was;
    }

    int back(int k) {
        if (k < 0 || k > 1) {
            return BAD;
        }
        if (images[k] == null) {
            return STATE;
        }
        world = images[k].world().copy();
        visits = new ArrayList<>(images[k].visits());
        noted = new ArrayList<>(images[k].noted());
        return visits.size();
    }

    int sheet(int k, int lane, int n) {
        if (k < 0 || k > 3 || lane < 0 || lane > 2 || n > 40) {
            return BAD;
        }
        try {
            sheets[k] = lane == 0 ? new byte[n] : lane == 1 ? new short[n] : new int[n];
            return 1;
        } catch (NegativeArraySizeException e) {
            return -14;
        }
    }

    private static int machineFault(RuntimeException e) {
        if (e instanceof NullPointerException) {
            return 1;
        }
        if (e instanceof ArrayIndexOutOfBoundsException) {
            return 2;
        }
        if (e instanceof ClassCastException) {
            return 3;
        }
        throw e;
    }

    int lay(int k, int i, int v) {
        if (k < 0 || k > 3) {
            return BAD;
        }
        try {
            if (sheets[k] instanceof byte[] row) {
                row[i] = (byte) v;
            } else if (sheets[k] instanceof short[] row) {
                row[i] = (short) v;
            } else {
                ((int[]) sheets[k])[i] = v;
            }
            return 1;
        } catch (RuntimeException e) {
            return -10 - machineFault(e);
        }
    }

    private int cell(int k, int lane, int i) {
        return lane == 0 ? ((byte[]) sheets[k])[i] : lane == 1 ? ((short[]) sheets[k])[i] : ((int[]) sheets[k])[i];
    }

    int read(int k, int lane, int f, int n) {
        if (k < 0 || k > 3 || lane < 0 || lane > 2 || n < 0 || n > 10) {
            return BAD;
        }
        List<Visit> before = new ArrayList<>(visits);
        for (int i = 0; i < n; i++) {
            int[] c = new int[4];
            try {
                for (int j = 0; j < 4; j++) {
                    c[j] = cell(k, lane, f + 4 * i + j);
                }
            } catch (RuntimeException e) {
                lastTorn = machineFault(e);
                return i;
            }
            if (come(c[0], c[1], c[2], c[3]) < 0) {
                visits = before;
                return -20 - i;
            }
        }
        lastTorn = 0;
        return n;
    }

    /** For the tests alone: the lane of a SHEET, -1 for none. */
    int sheetLane(int k) {
        if (k < 0 || k > 3 || sheets[k] == null) {
            return -1;
        }
        return sheets[k] instanceof byte[] ? 0 : sheets[k] instanceof short[] ? 1 : 2;
    }

    int torn() {
        return lastTorn;
    }

    int count(int what) {
        switch (what) {
            case 0: return things.size();
            case 1: return kinds.size();
            case 2: return visits.size();
            case 3: return noted.size();
            case 4: return (images[0] == null ? 0 : 1) + (images[1] == null ? 0 : 1);
            case 5: return tape.length();
            case 6: return sheets[0] == null ? NONE : java.lang.reflect.Array.getLength(sheets[0]);
            default: return BAD;
        }
    }
}
