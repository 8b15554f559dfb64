/** Promises 29 to 35: two by turns; orders, rings. */
public final class DuelOrderRingPromises {
    private static final int NONE = FirstPut.NONE;
    private static final int BAD = FirstPut.BAD;
    private static final int STATE = FirstPut.STATE;
    private static final int FULL = FirstPut.FULL;

    public static void main(String[] args) {
        duelByPassing();
        duelByRubbish();
        duelRefused();
        notedAndForget();
        ordersOfEldestAndLatest();
        ordersOfLightest();
        ordersRefused();
        rings();
        ringsRefused();
        join();
        Check.finish();
    }

    private static void duelByPassing() {
        FirstPut x = Check.told("thing 3 0 1 1 0 0;thing 3 0 10 10 0 0;line eldest 0 1;line latest;");
        Check.due("one turn", x.duel(0, 0, 1, 0, 1, 0), 1001);
        Check.due("one turn, draws", x.duel(0, 0, 1, 0, 1, 1), 0);
        Check.due("two turns", x.duel(0, 0, 1, 0, 2, 0), 999);
        Check.due("two turns, passes", x.duel(0, 0, 1, 0, 2, 1), 2);
        Check.due("two turns, puts rather than passes", x.duel(0, 0, 1, 1, 2, 1), 1);
        Check.due("three turns", x.duel(0, 0, 1, 0, 3, 0), 1001);
        Check.due("three turns, passes", x.duel(0, 0, 1, 0, 3, 1), 2);
        Check.due("nothing lies there", x.duel(1, 0, 1, 2, 6, 0), 1000);
        Check.due("nothing lies there, draws all the same", x.duel(1, 0, 1, 2, 6, 1), 0);
        Check.due("whose values count", x.duel(0, 2, 1, 0, 2, 0), 999);
        Check.due("a duel changes nothing", x.line(0, 1), 2);
    }

    private static void duelByRubbish() {
        FirstPut x = Check.told("thing 3 0 0 9 0 0;thing 3 0 0 9 0 0;line latest 0 1;");
        Check.due("no rubbish", x.duel(0, 0, 1, 0, 2, 0), 991);
        Check.due("rubbish", x.duel(0, 0, 1, 1, 2, 0), 1000);
        Check.due("puts it", x.duel(0, 0, 1, 1, 2, 1), 1);
        FirstPut full = Check.told("thing 3 0 0 9 0 0;".repeat(8) + "line latest 0 1 2 3 4 5 6 7;");
        Check.due("no room for rubbish", full.duel(0, 0, 1, 2, 2, 0), 991);
        Check.due("no room, draws", full.duel(0, 0, 1, 2, 2, 1), 0);
        FirstPut heavy = Check.told("thing 3 1 0 9 0 0;thing 3 1 0 9 0 0;line lightest 0 1;");
        Check.due("rubbish is lighter", heavy.duel(0, 0, 1, 1, 2, 0), 1000);
        FirstPut light = Check.told("thing 3 0 0 9 0 0;thing 3 0 0 9 0 0;line lightest 0 1;");
        Check.due("as light, but put in last", light.duel(0, 0, 1, 1, 2, 0), 991);
        FirstPut eldest = Check.told("thing 3 0 9 9 0 0;line eldest 0;");
        Check.due("who is first draws", eldest.duel(0, 1, 0, 2, 6, 0), 1009);
    }

    private static void duelRefused() {
        FirstPut x = Check.told("thing 3 0 1 1 0 0;line eldest 0;");
        int[][] bad = {{1, 0, 1, 0, 1, 0}, {-1, 0, 1, 0, 1, 0}, {0, 4, 1, 0, 1, 0}, {0, -1, 1, 0, 1, 0},
            {0, 0, 4, 0, 1, 0}, {0, 0, -1, 0, 1, 0}, {0, 1, 1, 0, 1, 0}, {0, 0, 1, 3, 1, 0}, {0, 0, 1, -1, 1, 0},
            {0, 0, 1, 0, 0, 0}, {0, 0, 1, 0, 7, 0}, {0, 0, 1, 0, 1, 2}, {0, 0, 1, 0, 1, -1}};
        for (int[] a : bad) {
            Check.due("duel of " + java.util.Arrays.toString(a), x.duel(a[0], a[1], a[2], a[3], a[4], a[5]), BAD);
        }
        Check.due("the bounds", x.duel(0, 3, 0, 2, 6, 0), 1000);
    }

    private static void notedAndForget() {
        FirstPut x = Check.told("thing 0 0 0 0 0 0;".repeat(10));
        Check.due("forget() of nothing", x.forget(), 0);
        for (int t = 0; t < 8; t++) {
            Check.due("noted(" + t + ")", x.noted(t), t + 1);
        }
        Check.due("the ninth", x.noted(8), FULL);
        Check.due("it is already", x.noted(7), STATE);
        Check.due("noted(10)", x.noted(10), BAD);
        Check.due("noted(-1)", x.noted(-1), BAD);
        Check.due("count(3)", x.count(3), 8);
        Check.due("forget()", x.forget(), 8);
        Check.due("count(3) then", x.count(3), 0);
        Check.due("noted(7) then", x.noted(7), 1);
    }

    private static void order(FirstPut x, int l, int... due) {
        for (int i = 0; i < 8; i++) {
            int want = i < due.length ? due[i] : NONE;
            Check.due("orders(" + l + ", 10 and " + i + ")", x.orders(l, 10 + i), want);
        }
    }

    private static void ordersOfEldestAndLatest() {
        FirstPut x = Check.told("thing 0 0 0 0 0 0;".repeat(5) + "line eldest 3 0 1;line latest 4 2;line latest;");
        Check.due("nothing noted", x.orders(0, 0), 6);
        order(x, 0, 0, 1, 3);
        Check.due("of nothing there is one order", x.orders(2, 0), 1);
        order(x, 2);
        x.noted(1);
        Check.due("one noted", x.orders(0, 0), 2);
        order(x, 0, 1, 0, 3);
        Check.due("not of this line", x.orders(1, 0), 0);
        order(x, 1);
        x.noted(3);
        order(x, 0, 1, 3, 0);
        x.forget();
        x.noted(2);
        Check.due("latest", x.orders(1, 0), 1);
        order(x, 1, 4, 2);
        x.noted(4);
        Check.due("all noted", x.orders(1, 0), 1);
        x.noted(0);
        Check.due("more than lie there", x.orders(1, 0), 0);
        Check.due("more than lie there, of nothing", x.orders(2, 0), 0);
    }

    /** Weights 5 2 2 9 2: the lightest are 1, 2, 4 in whichever order they lie. */
    private static void ordersOfLightest() {
        FirstPut x = Check.told("thing 0 5 0 0 0 0;thing 0 2 0 0 0 0;thing 0 2 0 0 0 0;thing 0 9 0 0 0 0;"
            + "thing 0 2 0 0 0 0;line lightest 0 1 2 3 4;");
        Check.due("nothing noted", x.orders(0, 0), 120);
        x.noted(4);
        Check.due("4 lies ahead of 1 and 2", x.orders(0, 0), 40);
        order(x, 0, 0, 3, 4, 1, 2);
        x.noted(2);
        Check.due("4, 2, 1", x.orders(0, 0), 20);
        order(x, 0, 0, 3, 4, 2, 1);
        x.noted(0);
        Check.due("1 is lighter than 0", x.orders(0, 0), 0);
        order(x, 0);
        x.forget();
        x.noted(0);
        Check.due("0 is not the lightest", x.orders(0, 0), 0);
    }

    private static void ordersRefused() {
        FirstPut x = Check.told("thing 0 1 0 0 0 0;".repeat(9) + "line latest 0 1 2 3 4 5 6 7;");
        Check.due("eight lie there", x.orders(0, 0), STATE);
        Check.due("eight lie there, the first", x.orders(0, 10), STATE);
        Check.due("eight lie there, what is bad", x.orders(0, 18), BAD);
        x.draw(0, 0);
        Check.due("seven", x.orders(0, 0), 5040);
        order(x, 0, 0, 1, 2, 3, 4, 5, 6);
        Check.due("orders(0, 1)", x.orders(0, 1), BAD);
        Check.due("orders(0, 9)", x.orders(0, 9), BAD);
        Check.due("orders(0, 18)", x.orders(0, 18), BAD);
        Check.due("orders(0, -1)", x.orders(0, -1), BAD);
        Check.due("orders(1, 0)", x.orders(1, 0), BAD);
        Check.due("orders(-1, 0)", x.orders(-1, 0), BAD);
    }

    private static void rings(String text, int[] gets, int[] mates) {
        FirstPut x = Check.told(text);
        for (int p = 0; p < 4; p++) {
            Check.due("ring(" + p + ") of " + text, x.ring(p), gets[p]);
            Check.due("with(" + p + ") of " + text, x.with(p), mates[p]);
        }
    }

    private static void rings() {
        // 0 and 1 swap; 2 would have what 0 brings, then what 3 brings; 3 would have what 2 brings
        rings("thing 0 0 0 9 9 0;thing 1 0 9 0 0 0;thing 2 0 0 0 0 9;thing 3 0 0 0 5 0;",
            new int[] {1, 0, 3, 2}, new int[] {3, 3, 12, 12});
        // a ring of three; 3 keeps his own
        rings("thing 0 0 0 0 9 1;thing 1 0 9 0 0 1;thing 2 0 0 9 0 1;thing 3 0 0 0 0 2;",
            new int[] {1, 2, 0, 3}, new int[] {7, 7, 7, 8});
        // all alike: of several the least; 0 brings the least of his, and goes with it, then 1 with his, ..
        rings("thing 2 0 5 5 5 5;thing 0 0 5 5 5 5;thing 0 0 20 20 20 20;thing 1 0 5 5 5 5;",
            new int[] {1, 3, 0, NONE}, new int[] {1, 2, 4, NONE});
        // what lies in a line is not held
        rings("thing 0 0 0 9 0 0;thing 1 0 9 0 0 0;line eldest 1;",
            new int[] {0, NONE, NONE, NONE}, new int[] {1, NONE, NONE, NONE});
    }

    private static void ringsRefused() {
        FirstPut x = new FirstPut();
        Check.due("ring(4)", x.ring(4), BAD);
        Check.due("ring(-1)", x.ring(-1), BAD);
        Check.due("with(4)", x.with(4), BAD);
        Check.due("with(-1)", x.with(-1), BAD);
        Check.due("ring(0) of nothing", x.ring(0), NONE);
        Check.due("with(0) of nothing", x.with(0), NONE);
    }

    private static void join() {
        FirstPut x = Check.told("thing 0 0 9 1 3 0;thing 1 0 4 8 3 0;thing 2 0 20 20 20 0;line eldest;line latest 2 0;"
            + "line eldest 1 ;");
        Check.due("join(0)", x.join(0), 1);
        Check.due("join(1)", x.join(1), 2);
        Check.due("of several the least", x.join(2), 1);
        Check.due("of no value", x.join(3), 1);
        Check.due("join(4)", x.join(4), BAD);
        Check.due("join(-1)", x.join(-1), BAD);
        Check.due("nothing lies anywhere", Check.told("thing 0 0 9 1 3 0;line eldest;").join(0), NONE);
        Check.due("no lines", new FirstPut().join(0), NONE);
    }
}
