import java.util.Random;

/** Random runs of calls on FirstPut and on the plain model beside it: each answer is to be the same. */
public final class ModelRuns {
    private static final int RUNS = 600;
    private static final int CALLS = 500;
    private static final String[] KINDS = {"eldest", "latest", "lightest"};
    private static final String[] WORDS = {"thing", "line", "put", "draw", "chance", "eldest", "lightest", "lin", "x"};
    private static final int[] ODD = {-1, -4, -5, 4, 8, 9, 10, 12, 14, 17, 18, 20, 99, 100, 1000,
        Integer.MIN_VALUE, Integer.MAX_VALUE, Integer.MAX_VALUE - 3};

    private final Random random;
    private final FirstPut x = new FirstPut();
    private final Model m = new Model();
    private final int run;

    private ModelRuns(int run) {
        this.run = run;
        this.random = new Random(run);
    }

    public static void main(String[] args) {
        for (int run = 0; run < RUNS && Check.wrongSoFar() < 20; run++) {
            ModelRuns one = new ModelRuns(run);
            int calls = one.tellText();
            for (int c = calls; c < CALLS; c++) {
                one.call();
            }
        }
        Check.finish();
    }

    private void same(String call, long got, long want) {
        Check.due("run " + run + ": " + call, got, want);
    }

    private int below(int n) {
        return random.nextInt(n);
    }

    /** Mostly 0 to n - 1, now and then something else. */
    private int near(int n) {
        return below(25) == 0 ? ODD[below(ODD.length)] : below(Math.max(n, 1));
    }

    private String blanks() {
        return below(12) == 0 ? "   ".substring(0, below(4)) : "";
    }

    private String numbers(int... each) {
        StringBuilder b = new StringBuilder();
        for (int n : each) {
            b.append(' ').append(blanks()).append(below(40) == 0 && n < 10 ? "0" + n : "" + n);
        }
        return b + ";" + blanks();
    }

    private String randomText() {
        StringBuilder b = new StringBuilder(blanks());
        int things = below(11);
        int lines = below(10) == 0 ? 0 : 1 + below(3);
        boolean linesFirst = below(4) == 0;
        String lineText = linesText(things, lines);
        if (linesFirst) {
            b.append(lineText);
        }
        int values = below(2) == 0 ? 21 : 3;
        int weights = below(2) == 0 ? 10 : 3;
        for (int t = 0; t < things; t++) {
            b.append("thing").append(numbers(below(4), below(weights), below(values), below(values), below(values),
                below(values)));
        }
        if (!linesFirst) {
            b.append(lineText);
        }
        if (below(3) != 0) {
            b.append("chance").append(numbers(below(11)));
        }
        int day = 0;
        int visits = lines == 0 || things == 0 ? 0 : below(13);
        for (int i = 0; i < visits; i++) {
            day += below(6);
            boolean puts = below(2) == 0;
            b.append(puts ? "put" : "draw").append(puts ? numbers(day, below(4), below(lines), below(things))
                : numbers(day, below(4), below(lines)));
        }
        if (b.length() > 480) {
            b.setLength(b.lastIndexOf(";", 479) + 1);
        }
        return b.toString();
    }

    private String linesText(int things, int lines) {
        int[] order = new int[things];
        for (int t = 0; t < things; t++) {
            int at = below(t + 1);
            order[t] = order[at];
            order[at] = t;
        }
        StringBuilder b = new StringBuilder();
        int next = 0;
        for (int l = 0; l < lines; l++) {
            int lie = Math.min(things - next, below(9));
            int[] row = new int[lie];
            for (int i = 0; i < lie; i++) {
                row[i] = order[next++];
            }
            b.append("line ").append(KINDS[below(3)]).append(numbers(row));
        }
        return b.toString();
    }

    /** One fault or two, anywhere. */
    private String spoiled(String text) {
        StringBuilder b = new StringBuilder(text);
        for (int k = 1 + below(2); k > 0; k--) {
            int at = below(b.length() + 1);
            switch (below(6)) {
                case 0 -> b.insert(at, "0123456789;; az@\t\200\377".charAt(below(18)));
                case 1 -> b.delete(at, Math.min(b.length(), at + 1 + below(3)));
                case 2 -> b.setLength(at);
                case 3 -> b.insert(at, WORDS[below(WORDS.length)]);
                case 4 -> b.insert(at, " " + below(120) + " ");
                default -> {
                    int from = b.toString().indexOf(';', at) + 1;
                    b.insert(from, new String[] {"thing 0 0 0 0 0 0;", "line eldest;", "draw 99 0 0;", "put 9 0 0 9;",
                        "chance 4;", "line latest 0 9;", "draw 0 1 2;"}[below(7)]);
                }
            }
        }
        if (b.length() > 480) {
            b.setLength(480);
        }
        return b.toString();
    }

    /** How many calls it took. */
    private int tellText() {
        String text = randomText();
        if (below(3) == 0) {
            text = spoiled(text);
        }
        same("end(0)", x.end(0), m.end(0));
        Check.type(x, text);
        m.tape.append(text);
        same("bank() of \"" + text + "\"", x.bank(), m.bank());
        same("fault() of \"" + text + "\"", x.fault(), m.fault());
        return 4 + text.length() / 8;
    }

    private int aThing() {
        return near(m.things.size());
    }

    private int aLine() {
        return near(m.kinds.size());
    }

    private int aCount() {
        return below(20) == 0 ? near(14) : below(m.visits.size() + 1);
    }

    private int nth(int n) {
        return below(3) == 0 ? 0 : 10 + near(n);
    }

    private void call() {
        switch (below(8)) {
            case 0, 1 -> callText();
            case 2, 3 -> callByHand();
            case 4 -> callRuns();
            case 5 -> callOneMore();
            case 6 -> callOrders();
            default -> callSheets();
        }
    }

    private void callText() {
        int a = aThing();
        int l = aLine();
        int p = near(4);
        int w = below(2) == 0 ? near(5) : 10 + near(9);
        switch (below(60)) {
            case 0 -> tellText();
            case 1, 2 -> {
                long v = random.nextLong();
                same("feed(" + v + ")", x.feed(v), m.feed(v));
            }
            case 3 -> same("end", x.end(l * 100), m.end(l * 100));
            case 4 -> same("end(" + l + ")", x.end(l), m.end(l));
            case 5 -> same("bank()", x.bank(), m.bank());
            case 6, 7 -> same("fault()", x.fault(), m.fault());
            case 8, 9, 10, 11 -> {
                int v = near(11);
                same("chance(" + v + ")", x.chance(v), m.chance(v));
            }
            case 12, 13, 14, 15 -> same("holds(" + p + ")", x.holds(p), m.holds(p));
            case 16, 17, 18, 19 -> same("worth(" + p + ")", x.worth(p), m.worth(p));
            case 20, 21, 22, 23, 24, 25 -> {
                int i = near(12);
                int what = near(5);
                same("visit(" + i + ", " + what + ")", x.visit(i, what), m.visit(i, what));
            }
            case 26, 27, 28, 29, 30, 31, 32, 33, 34, 35, 36 -> same("line(" + l + ", " + w + ")", x.line(l, w), m.line(l, w));
            case 37, 38, 39, 40 -> {
                int what = near(8);
                same("count(" + what + ")", x.count(what), m.count(what));
            }
            default -> same("thing(" + a + ", " + w + ")", x.thing(a, w), m.thing(a, w));
        }
    }

    private void callByHand() {
        int p = near(4);
        int t = aThing();
        int l = aLine();
        int at = m.thing(t, 1);
        int owner = at >= 0 && at < 4 && below(6) != 0 ? at : p;
        switch (below(12)) {
            case 0, 1, 2, 3 -> same("put(" + owner + ", " + t + ", " + l + ")", x.put(owner, t, l), m.put(owner, t, l));
            case 4, 5, 6 -> same("draw(" + p + ", " + l + ")", x.draw(p, l), m.draw(p, l));
            case 7 -> {
                int i = near(9);
                same("slip(" + t + ", " + l + ", " + i + ")", x.slip(t, l, i), m.slip(t, l, i));
            }
            case 8, 9, 10 -> {
                int last = m.visits.isEmpty() ? 0 : m.visits.get(m.visits.size() - 1).day();
                int day = below(8) == 0 ? near(100) : last + below(4);
                int brings = below(2) == 0 ? -4 : t;
                same("come(" + day + ", " + owner + ", " + l + ", " + brings + ")", x.come(day, owner, l, brings),
                    m.come(day, owner, l, brings));
            }
            default -> {
                int n = aCount();
                if (below(3) == 0) {
                    same("go(" + n + ")", x.go(n), m.go(n));
                } else if (below(2) == 0) {
                    same("cut(" + n + ")", x.cut(n), m.cut(n));
                }
            }
        }
    }

    private void callRuns() {
        int n = aCount();
        int t = aThing();
        int p = near(4);
        switch (below(5)) {
            case 0 -> same("after(" + n + ", " + t + ")", x.after(n, t), m.after(n, t));
            case 1 -> same("gains(" + n + ", " + p + ")", x.gains(n, p), m.gains(n, p));
            case 2 -> same("vain()", x.vain(), m.vain());
            case 3 -> same("lost(" + p + ")", x.lost(p), m.lost(p));
            default -> same("since(" + p + ", " + t + ")", x.since(p, t), m.since(p, t));
        }
    }

    private void callOneMore() {
        int p = near(4);
        int l = aLine();
        int t = aThing();
        int what = near(2);
        switch (below(20)) {
            case 0, 1, 2 -> same("extra(" + p + ", " + l + ", " + what + ")", x.extra(p, l, what), m.extra(p, l, what));
            case 3, 4, 5 -> same("aim(" + t + ", " + what + ")", x.aim(t, what), m.aim(t, what));
            case 6, 7, 8, 9, 10 -> {
                int rubbish = aThing();
                int at = m.thing(rubbish, 1);
                int owner = at >= 0 && at < 4 && below(6) != 0 ? at : p;
                int w = near(3);
                same("trick(" + owner + ", " + rubbish + ", " + t + ", " + w + ")", x.trick(owner, rubbish, t, w),
                    m.trick(owner, rubbish, t, w));
            }
            case 11, 12 -> {
                int w = nth(m.visits.size());
                same("most(" + p + ", " + w + ")", x.most(p, w), m.most(p, w));
            }
            case 13 -> same("odds(" + l + ", " + t + ", " + what + ")", x.odds(l, t, what), m.odds(l, t, what));
            case 14 -> same("likeliest(" + l + ")", x.likeliest(l), m.likeliest(l));
            default -> {
                int q = near(4);
                int r = near(3);
                int n = 1 + near(6);
                same("duel(" + l + ", " + p + ", " + q + ", " + r + ", " + n + ", " + what + ")",
                    x.duel(l, p, q, r, n, what), m.duel(l, p, q, r, n, what));
            }
        }
    }

    private void callOrders() {
        int p = near(4);
        int l = aLine();
        switch (below(10)) {
            case 0, 1, 2 -> {
                int t = aThing();
                if (m.isLineThere(l) && below(4) != 0) {
                    t = m.line(l, 10 + below(3));
                }
                same("noted(" + t + ")", x.noted(t), m.noted(t));
            }
            case 3 -> same("forget()", x.forget(), m.forget());
            case 4, 5 -> {
                int w = nth(9);
                same("orders(" + l + ", " + w + ")", x.orders(l, w), m.orders(l, w));
            }
            case 6, 7 -> same("ring(" + p + ")", x.ring(p), m.ring(p));
            case 8 -> same("with(" + p + ")", x.with(p), m.with(p));
            default -> same("join(" + p + ")", x.join(p), m.join(p));
        }
    }

    private void callSheets() {
        int k = near(4);
        int lane = near(3);
        switch (below(16)) {
            case 0 -> {
                int n = below(8) == 0 ? near(42) - 1 : 8 + below(33);
                same("sheet(" + k + ", " + lane + ", " + n + ")", x.sheet(k, lane, n), m.sheet(k, lane, n));
            }
            case 1, 2, 3, 4, 5, 6 -> layVisit(k);
            case 7 -> {
                int i = near(42);
                int v = random.nextInt();
                same("lay(" + k + ", " + i + ", " + v + ")", x.lay(k, i, v), m.lay(k, i, v));
            }
            case 8, 9, 10 -> {
                int f = below(4) == 0 ? near(42) : 4 * below(10);
                int n = below(3) == 0 ? near(11) : below(3);
                int taken = m.sheetLane(k) >= 0 && below(5) != 0 ? m.sheetLane(k) : lane;
                same("read(" + k + ", " + taken + ", " + f + ", " + n + ")", x.read(k, taken, f, n),
                    m.read(k, taken, f, n));
                same("torn()", x.torn(), m.torn());
            }
            case 11 -> same("torn()", x.torn(), m.torn());
            case 12, 13 -> {
                int image = near(2);
                same("keep(" + image + ")", x.keep(image), m.keep(image));
            }
            default -> {
                int image = near(2);
                same("back(" + image + ")", x.back(image), m.back(image));
            }
        }
    }

    private void layVisit(int k) {
        int f = 4 * below(10);
        int day = below(5) + (m.visits.isEmpty() ? 0 : m.visits.get(m.visits.size() - 1).day());
        int[] cells = {day, below(4), below(Math.max(1, m.kinds.size())), below(2) == 0 ? -4 : aThing()};
        for (int i = 0; i < 4; i++) {
            int v = cells[i] + (below(6) == 0 ? 256 << 8 * below(3) : 0);
            same("lay(" + k + ", " + (f + i) + ", " + v + ")", x.lay(k, f + i, v), m.lay(k, f + i, v));
        }
    }
}
