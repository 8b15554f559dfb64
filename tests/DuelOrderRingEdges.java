/** Edges of promises 29 to 35: two by turns; orders, rings. */
public final class DuelOrderRingEdges {
    private static final int BAD = FirstPut.BAD;
    private static final int STATE = FirstPut.STATE;
    private static final int FULL = FirstPut.FULL;
    private static final int NONE = FirstPut.NONE;
    private static final String TEN = "thing 0 0 0 0 0 0;".repeat(10);

    public static void main(String[] args) {
        duelByBounds();
        duelAlike();
        duelByTurns();
        duelByRubbish();
        duelByRoom();
        notedByBounds();
        notedUpToEight();
        forget();
        ordersByBounds();
        ordersUpToSeven();
        ordersOfNothing();
        ordersOfAllNoted();
        ordersByWeight();
        ringsByBounds();
        ringsOfFew();
        ringsByALittle();
        ringsOfAll();
        join();
        Check.finish();
    }

    private static void duelByBounds() {
        Edge.bounds(Scene.RICH, 0, 0, 2, "duel", 0, 0, 1, 0, 1, 0);
        Edge.bounds(Scene.RICH, 1, 0, 3, "duel", 0, 0, 1, 0, 1, 0);
        Edge.bounds(Scene.RICH, 2, 0, 3, "duel", 0, 1, 0, 0, 1, 0);
        Edge.bounds(Scene.RICH, 3, 0, 2, "duel", 0, 0, 1, 0, 1, 0);
        Edge.bounds(Scene.RICH, 4, 1, 6, "duel", 0, 0, 1, 0, 1, 0);
        Edge.bounds(Scene.RICH, 5, 0, 1, "duel", 0, 0, 1, 0, 1, 0);
        Edge.bounds(Scene.BRIM, 4, 1, 6, "duel", 0, 0, 1, 2, 6, 1);
        Edge.bad(Scene.NO_LINES, "duel", 0, 0, 1, 0, 1, 0);
        Edge.leaves(Scene.NO_THINGS, 1000, "duel", 2, 3, 0, 2, 6, 0);
        Edge.leaves(Scene.NO_THINGS, 0, "duel", 2, 3, 0, 2, 6, 1);
        Edge.leaves(Scene.RICH, 1004, "duel", 0, 0, 1, 0, 1, 0);
        Edge.leaves(Scene.RICH, 0, "duel", 0, 0, 1, 0, 1, 1);
    }

    private static void duelAlike() {
        for (int p = 0; p < 4; p++) {
            for (int q = 0; q < 4; q++) {
                if (p == q) {
                    Edge.bad(Scene.RICH, "duel", 0, p, q, 0, 1, 0);
                } else {
                    Edge.taken(Scene.RICH, "duel", 0, p, q, 0, 1, 0);
                }
            }
        }
    }

    /** The first one has the odd turns: with n turns of an eldest LINE of equal THINGS he draws one more if n is odd. */
    private static void duelByTurns() {
        FirstPut x = Check.told("thing 0 1 20 20 20 20;".repeat(8) + "line eldest 0 1 2 3 4 5 6 7;line latest;");
        for (int n = 1; n <= 6; n++) {
            Check.due(n + " turns", x.duel(0, 0, 3, 0, n, 0), n % 2 == 1 ? 1020 : 1000);
            Check.due(n + " turns, draws", x.duel(0, 0, 3, 0, n, 1), 0);
            Check.due(n + " turns at nothing", x.duel(1, 0, 3, 0, n, 0), 1000);
            Check.due(n + " turns at nothing, of several the first", x.duel(1, 0, 3, 2, n, 1), 0);
        }
        FirstPut one = Check.told("thing 0 0 20 0 0 0;thing 0 0 20 0 0 0;thing 0 0 20 0 0 0;line latest 0 1 2;");
        Check.due("the greatest", one.duel(0, 0, 1, 0, 6, 0), 1040);
        Check.due("the second one gets the middle one", one.duel(0, 1, 0, 0, 6, 0), 980);
        Check.due("one turn of the second one", one.duel(0, 1, 0, 0, 2, 0), 980);
    }

    private static void duelByRubbish() {
        FirstPut x = Check.told("thing 3 1 0 20 0 0;line latest 0;");
        for (int r = 0; r <= 2; r++) {
            Check.due("he draws the only one himself, " + r + " pieces", x.duel(0, 0, 1, r, 6, 0), 1000);
            Check.due("and does so first", x.duel(0, 0, 1, r, 6, 1), 0);
        }
        FirstPut two = Check.told("thing 3 1 0 20 0 0;thing 3 1 0 20 0 0;line latest 0 1;");
        Check.due("no piece", two.duel(0, 0, 1, 0, 2, 0), 980);
        Check.due("one piece", two.duel(0, 0, 1, 1, 2, 0), 1000);
        Check.due("it is put", two.duel(0, 0, 1, 1, 2, 1), 1);
        FirstPut six = Check.told("thing 3 1 0 20 0 0;".repeat(6) + "line latest 0 1 2 3 4 5;");
        for (int pieces = 0; pieces <= 2; pieces++) {
            Check.due("each piece saves one of two, " + pieces, six.duel(0, 0, 1, pieces, 4, 0), 960 + 20 * pieces);
            Check.due("each piece saves one of three, " + pieces, six.duel(0, 0, 1, pieces, 6, 0), 940 + 20 * pieces);
        }
        FirstPut his = Check.told("thing 3 1 20 0 0 0;".repeat(6) + "line latest 0 1 2 3 4 5;");
        for (int pieces = 0; pieces <= 2; pieces++) {
            Check.due("the second one's pieces, " + pieces, his.duel(0, 0, 1, pieces, 5, 0), 1060 - 20 * pieces);
        }
        FirstPut light = Check.told("thing 3 1 0 20 0 0;thing 3 1 0 20 0 0;line lightest 0 1;");
        Check.due("the lightest is rubbish", light.duel(0, 0, 1, 1, 2, 1), 1);
        FirstPut none = Check.told("thing 3 0 0 20 0 0;thing 3 0 0 20 0 0;line lightest 0 1;");
        Check.due("as light as rubbish, but ahead of it", none.duel(0, 0, 1, 1, 2, 0), 980);
    }

    /** RUBBISH goes in where seven lie, and not where eight do. */
    private static void duelByRoom() {
        String eight = "thing 3 1 0 20 0 0;".repeat(8);
        Check.due("seven lie there", Check.told(eight + "line latest 0 1 2 3 4 5 6;").duel(0, 0, 1, 2, 2, 0), 1000);
        Check.due("put", Check.told(eight + "line latest 0 1 2 3 4 5 6;").duel(0, 0, 1, 2, 2, 1), 1);
        Check.due("eight lie there", Check.told(eight + "line latest 0 1 2 3 4 5 6 7;").duel(0, 0, 1, 2, 2, 0), 980);
        Check.due("draws", Check.told(eight + "line latest 0 1 2 3 4 5 6 7;").duel(0, 0, 1, 2, 2, 1), 0);
    }

    private static void notedByBounds() {
        Edge.bounds(Scene.RICH, 0, 0, 6, "noted", 0);
        Edge.bounds(Scene.NO_LINES, 0, 0, 1, "noted", 0);
        Edge.bounds(Scene.BRIM, 0, 0, 9, "noted", 0);
        Edge.only(Scene.NO_THINGS, 0, new int[] {}, "noted", 0);
        Edge.leaves(Scene.RICH, STATE, "noted", 1);
        Edge.leaves(Scene.RICH, STATE, "noted", 2);
        Edge.leaves(Scene.BRIM, FULL, "noted", 8);
        Edge.leaves(Scene.BRIM, FULL, "noted", 9);
        Edge.leaves(Scene.BRIM, STATE, "noted", 0);
        Edge.leaves(Scene.BRIM, STATE, "noted", 7);
        Edge.bad(Scene.BRIM, "noted", 10);
    }

    private static void notedUpToEight() {
        FirstPut x = Check.told(TEN);
        for (int i = 1; i <= 8; i++) {
            Check.due("the THING noted as number " + i, x.noted(10 - i), i);
            Check.due("it is already", x.noted(10 - i), STATE);
        }
        Check.due("the ninth", x.noted(1), FULL);
        Check.due("how many are", x.count(3), 8);
    }

    private static void forget() {
        Check.due("nothing", new FirstPut().forget(), 0);
        Check.due("two", Scene.RICH.made().forget(), 2);
        FirstPut x = Scene.BRIM.made();
        Check.due("eight", x.forget(), 8);
        Check.due("nothing then", x.forget(), 0);
        Check.due("noted anew", x.noted(9), 1);
        Edge.leaves(Scene.NEW, 0, "forget");
        Edge.leaves(Scene.NO_LINES, 0, "forget");
    }

    private static void ordersByBounds() {
        Edge.bounds(Scene.RICH, 0, 0, 2, "orders", 0, 0);
        int[] whats = {0, 10, 11, 12, 13, 14, 15, 16, 17};
        for (int l = 0; l < 3; l++) {
            Edge.only(Scene.RICH, 1, whats, "orders", l, 0);
            Edge.only(Scene.NO_THINGS, 1, whats, "orders", l, 0);
        }
        Edge.only(Scene.BRIM, 1, whats, "orders", 0, 0);
        Edge.bad(Scene.NO_LINES, "orders", 0, 0);
        Edge.leaves(Scene.BRIM, STATE, "orders", 0, 0);
        Edge.leaves(Scene.BRIM, STATE, "orders", 0, 10);
        Edge.leaves(Scene.BRIM, STATE, "orders", 0, 17);
        Edge.bad(Scene.BRIM, "orders", 0, 18);
        Edge.bad(Scene.BRIM, "orders", 3, 0);
        Edge.leaves(Scene.BRIM, NONE, "orders", 1, 10);
        Edge.leaves(Scene.BRIM, 0, "orders", 1, 0);
        Edge.leaves(Scene.RICH, 1, "orders", 0, 0);
        Edge.leaves(Scene.RICH, 1, "orders", 0, 11);
        Edge.leaves(Scene.RICH, NONE, "orders", 0, 12);
        Edge.leaves(Scene.RICH, NONE, "orders", 0, 17);
    }

    private static void ordersUpToSeven() {
        int[] factorial = {1, 1, 2, 6, 24, 120, 720, 5040};
        for (String kind : new String[] {"eldest", "latest", "lightest"}) {
            FirstPut x = Check.told(TEN + "line " + kind + ";");
            for (int lie = 0; lie <= 8; lie++) {
                boolean some = lie > 0 && lie < 8;
                Check.due(lie + " lie there", x.orders(0, 0), lie == 8 ? STATE : factorial[lie]);
                Check.due(lie + " lie there, the last", x.orders(0, 9 + Math.max(lie, 1)), lie == 8 ? STATE : some ? 9 : NONE);
                Check.due(lie + " lie there, behind the last", x.orders(0, 10 + Math.min(lie, 7)), lie == 8 ? STATE : NONE);
                x.put(0, 9 - lie, 0);
            }
            x.draw(1, 0);
            Check.due("seven again", x.orders(0, 0), 5040);
        }
    }

    private static void ordersOfNothing() {
        FirstPut x = Check.told("thing 0 0 0 0 0 0;line eldest;line latest;line lightest;");
        for (int l = 0; l < 3; l++) {
            Check.due("nothing lies there, nothing is noted", x.orders(l, 0), 1);
            for (int i = 0; i < 8; i++) {
                Check.due("no THING of it", x.orders(l, 10 + i), NONE);
            }
        }
        x.noted(0);
        for (int l = 0; l < 3; l++) {
            Check.due("nothing lies there, one is noted", x.orders(l, 0), 0);
            Check.due("none", x.orders(l, 10), NONE);
        }
    }

    /** As many are NOTED as lie there, then one more. */
    private static void ordersOfAllNoted() {
        String[] kinds = {"eldest", "latest", "lightest"};
        int[][] first = {{6, 5, 4, 3, 2, 1, 0}, {0, 1, 2, 3, 4, 5, 6}, {6, 5, 4, 3, 2, 1, 0}};
        int[] fit = {5040, 720, 120, 24, 6, 2, 1, 1, 0};
        for (int k = 0; k < 3; k++) {
            FirstPut x = Check.told(TEN + "line " + kinds[k] + " 0 1 2 3 4 5 6;");
            for (int n = 0; n < 7; n++) {
                Check.due(n + " noted", x.orders(0, 0), fit[n]);
                x.noted(6 - n);
            }
            Check.due("all noted", x.orders(0, 0), 1);
            for (int i = 0; i < 7; i++) {
                Check.due(kinds[k] + ": THING " + i, x.orders(0, 10 + i), first[k][i]);
            }
            Check.due("not so many", x.orders(0, 17), NONE);
            x.noted(7);
            Check.due("one more than lie there", x.orders(0, 0), 0);
            Check.due("none", x.orders(0, 10), NONE);
        }
    }

    /** A lighter one that is not NOTED, wherever it lies now, lets no ORDER FIT. */
    private static void ordersByWeight() {
        String things = "thing 0 1 0 0 0 0;thing 0 2 0 0 0 0;thing 0 2 0 0 0 0;thing 0 3 0 0 0 0;";
        for (String row : new String[] {"0 1 2 3", "1 0 2 3", "3 2 1 0"}) {
            FirstPut x = Check.told(things + "line lightest " + row + ";");
            x.noted(1);
            Check.due("0 is lighter than 1", x.orders(0, 0), 0);
            x.forget();
            x.noted(0);
            Check.due("the lightest, wherever it lies", x.orders(0, 0), 24);
            x.noted(2);
            Check.due("2 ahead of 1", x.orders(0, 0), 12);
            x.noted(3);
            Check.due("1 is lighter than 3", x.orders(0, 0), 0);
        }
        FirstPut drawn = Check.told(things + "line lightest 3 2 0;");
        drawn.draw(1, 0);
        drawn.noted(2);
        Check.due("the lightest lies there no more", drawn.orders(0, 0), 2);
        drawn.noted(0);
        Check.due("one that lies there no more is noted", drawn.orders(0, 0), 0);
    }

    private static void ringsByBounds() {
        for (Scene scene : Scene.values()) {
            Edge.bounds(scene, 0, 0, 3, "ring", 0);
            Edge.bounds(scene, 0, 0, 3, "with", 0);
            Edge.bounds(scene, 0, 0, 3, "join", 0);
        }
        for (int p = 1; p < 3; p++) {
            Edge.leaves(Scene.BRIM, NONE, "ring", p);
            Edge.leaves(Scene.BRIM, NONE, "with", p);
        }
    }

    private static void ringsOfFew() {
        for (int p = 0; p < 4; p++) {
            FirstPut alone = Check.told("thing " + p + " 0 0 0 0 0;thing " + p + " 0 20 20 20 20;");
            for (int q = 0; q < 4; q++) {
                Check.due("who holds none gets none", alone.ring(q), q == p ? 0 : NONE);
                Check.due("himself alone", alone.with(q), q == p ? 1 << p : NONE);
            }
        }
        FirstPut two = Check.told("thing 3 0 0 0 0 0;thing 0 0 0 0 0 0;");
        Check.due("all alike: the least THING is 3's own", two.ring(3), 0);
        Check.due("who is left keeps his", two.ring(0), 1);
        Check.due("his ring", two.with(0), 1);
        FirstPut lies = Check.told("thing 0 0 9 9 9 9;line eldest 0;");
        Check.due("what lies in a line is not brought", lies.ring(0), NONE);
    }

    private static void ringsOfTwo(String text, boolean swap) {
        FirstPut x = Check.told(text);
        int own = x.holds(0) == 1 ? 0 : 1;
        Check.due("ring(0) of " + text, x.ring(0), swap ? 1 - own : own);
        Check.due("ring(1) of " + text, x.ring(1), swap ? own : 1 - own);
        Check.due("with(0) of " + text, x.with(0), swap ? 3 : 1);
        Check.due("with(1) of " + text, x.with(1), swap ? 3 : 2);
    }

    /** ONE 1 would have what ONE 0 brings; ONE 0 likes the greatest VALUE by however little, of several the least THING. */
    private static void ringsByALittle() {
        ringsOfTwo("thing 0 0 5 9 0 0;thing 1 0 5 1 0 0;", false);
        ringsOfTwo("thing 0 0 5 9 0 0;thing 1 0 6 1 0 0;", true);
        ringsOfTwo("thing 0 0 6 9 0 0;thing 1 0 5 1 0 0;", false);
        ringsOfTwo("thing 1 0 5 1 0 0;thing 0 0 5 9 0 0;", true);
        ringsOfTwo("thing 1 0 5 1 0 0;thing 0 0 6 9 0 0;", false);
        ringsOfTwo("thing 1 0 6 1 0 0;thing 0 0 5 9 0 0;", true);
        ringsOfTwo("thing 0 0 0 20 0 0;thing 1 0 20 0 0 0;", true);
    }

    private static void ringsOfAll() {
        FirstPut four = Check.told("thing 0 0 0 0 0 20;thing 1 0 20 0 0 0;thing 2 0 0 20 0 0;thing 3 0 0 0 20 0;");
        int[] gets = {1, 2, 3, 0};
        for (int p = 0; p < 4; p++) {
            Check.due("a ring of four", four.ring(p), gets[p]);
            Check.due("all in it", four.with(p), 15);
        }
        // each would have the THING of the one ahead of him, who goes with his own first
        FirstPut chain = Check.told("thing 0 0 20 20 0 0;thing 1 0 0 10 20 0;thing 2 0 0 0 10 20;thing 3 0 0 0 0 10;");
        for (int p = 0; p < 4; p++) {
            Check.due("a chain", chain.ring(p), p);
            Check.due("each alone", chain.with(p), 1 << p);
        }
        FirstPut ten = Check.told("thing 3 0 5 5 5 5;".repeat(9) + "thing 0 0 5 5 5 5;");
        Check.due("the tenth THING", ten.ring(0), 9);
        Check.due("the first THING", ten.ring(3), 0);
    }

    private static void join() {
        Check.due("a new object", new FirstPut().join(0), NONE);
        Check.due("no lines", Scene.NO_LINES.made().join(3), NONE);
        Check.due("nothing lies anywhere", Scene.NO_THINGS.made().join(3), NONE);
        for (int l = 0; l < 3; l++) {
            String[] row = {"", "", ""};
            row[l] = " 0";
            FirstPut x = Check.told("thing 0 0 0 20 0 0;line eldest" + row[0] + ";line eldest" + row[1] + ";line eldest" + row[2] + ";");
            Check.due("a THING of no value in line " + l, x.join(0), l);
            Check.due("a THING of the greatest value", x.join(1), l);
            x.draw(2, l);
            Check.due("nothing lies there any more", x.join(0), NONE);
        }
        FirstPut alike = Check.told("thing 0 0 7 6 7 0;thing 0 0 7 7 6 0;thing 0 0 7 7 7 1;line eldest 0;line latest 1;line lightest 2;");
        Check.due("of several the least", alike.join(0), 0);
        Check.due("of two the least", alike.join(1), 1);
        Check.due("of the first and the last", alike.join(2), 0);
        Check.due("the last alone", alike.join(3), 2);
        Check.due("no such ONE", alike.join(4), BAD);
    }
}
