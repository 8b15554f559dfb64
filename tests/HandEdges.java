/** Edges of promises 12 to 17: by hand. */
public final class HandEdges {
    private static final int BAD = FirstPut.BAD;
    private static final int STATE = FirstPut.STATE;
    private static final int FULL = FirstPut.FULL;
    private static final int NONE = FirstPut.NONE;

    public static void main(String[] args) {
        putByBounds();
        putRefused();
        putUpToTheRoom();
        drawByBounds();
        drawUntilNothingLiesThere();
        slipByBounds();
        slipRefused();
        slipAtEachPlace();
        comeByBounds();
        comeByDays();
        comeUpToTwelve();
        cut();
        go();
        goInVain();
        Check.finish();
    }

    private static void putByBounds() {
        Edge.bounds(Scene.RICH, 0, 0, 3, "put", 0, 0, 0);
        Edge.bounds(Scene.RICH, 1, 0, 6, "put", 0, 0, 0);
        Edge.bounds(Scene.RICH, 2, 0, 2, "put", 0, 0, 0);
        Edge.bounds(Scene.BRIM, 1, 0, 9, "put", 0, 8, 1);
        Edge.bad(Scene.NO_LINES, "put", 0, 0, 0);
        Edge.bad(Scene.NO_THINGS, "put", 0, 0, 0);
        Edge.bad(Scene.RICH, "put", Integer.MIN_VALUE, Integer.MIN_VALUE, Integer.MIN_VALUE);
        Edge.bad(Scene.RICH, "put", Integer.MAX_VALUE, Integer.MAX_VALUE, Integer.MAX_VALUE);
    }

    /** BAD, STATE, FULL: the first that fits. */
    private static void putRefused() {
        Edge.leaves(Scene.RICH, STATE, "put", 1, 0, 0);
        Edge.leaves(Scene.RICH, STATE, "put", 1, 1, 0);
        Edge.leaves(Scene.RICH, STATE, "put", 1, 1, 2);
        Edge.leaves(Scene.RICH, STATE, "put", 1, 5, 1);
        Edge.leaves(Scene.BRIM, FULL, "put", 0, 8, 0);
        Edge.leaves(Scene.BRIM, FULL, "put", 3, 9, 0);
        Edge.leaves(Scene.BRIM, STATE, "put", 3, 8, 0);
        Edge.leaves(Scene.BRIM, STATE, "put", 0, 7, 0);
        Edge.bad(Scene.BRIM, "put", 4, 8, 0);
        Edge.bad(Scene.BRIM, "put", 3, 10, 0);
        Edge.bad(Scene.BRIM, "put", 3, 8, 3);
    }

    private static void putUpToTheRoom() {
        for (int l = 0; l < 3; l++) {
            FirstPut x = Check.told("thing 2 1 1 1 1 1;".repeat(10) + "line eldest;line latest;line lightest;");
            for (int t = 0; t < 8; t++) {
                Check.due("put(2, " + t + ", " + l + ")", x.put(2, 9 - t, l), t);
            }
            Check.due("the ninth", x.put(2, 0, l), FULL);
            Check.due("what he holds", x.holds(2), 3);
            x.draw(0, l);
            Check.due("room again", x.put(2, 0, l), 7);
            Check.due("full again", x.put(2, 1, l), FULL);
            int other = (l + 1) % 3;
            Check.due("another line has room", x.put(2, 1, other), 0);
        }
    }

    private static void drawByBounds() {
        Edge.bounds(Scene.RICH, 0, 0, 3, "draw", 0, 0);
        Edge.bounds(Scene.RICH, 1, 0, 2, "draw", 0, 0);
        Edge.bad(Scene.NO_LINES, "draw", 0, 0);
        Edge.bad(Scene.RICH, "draw", Integer.MAX_VALUE, Integer.MIN_VALUE);
        for (int l = 0; l < 3; l++) {
            Edge.leaves(Scene.NO_THINGS, NONE, "draw", 3, l);
        }
        Edge.leaves(Scene.RICH, NONE, "draw", 0, 1);
        Edge.leaves(Scene.BRIM, NONE, "draw", 0, 2);
        Edge.bad(Scene.BRIM, "draw", 4, 2);
        Edge.bad(Scene.BRIM, "draw", 0, 3);
    }

    private static void drawUntilNothingLiesThere() {
        String things = "thing 0 3 0 0 0 0;thing 0 1 0 0 0 0;thing 0 3 0 0 0 0;thing 0 1 0 0 0 0;thing 0 9 0 0 0 0;"
            + "thing 0 0 0 0 0 0;thing 0 3 0 0 0 0;thing 0 9 0 0 0 0;";
        String[] kinds = {"eldest", "latest", "lightest"};
        int[][] due = {{4, 0, 7, 1, 6, 3, 5, 2}, {2, 5, 3, 6, 1, 7, 0, 4}, {5, 1, 3, 0, 6, 2, 4, 7}};
        for (int l = 0; l < 3; l++) {
            FirstPut x = Check.told(things + "line " + kinds[l] + " 4 0 7 1 6 3 5 2;");
            for (int t : due[l]) {
                Check.due(kinds[l] + " gives", x.line(0, 2), t);
                Check.due(kinds[l] + ", drawn", x.draw(1, 0), t);
            }
            Check.due("in vain", x.draw(1, 0), NONE);
            Check.due("in vain again", x.draw(2, 0), NONE);
            Check.due("all are his", x.holds(1), 255);
            Check.due("nothing lies there", x.line(0, 1), 0);
            Check.due("put in where nothing lies", x.put(1, 7, 0), 0);
        }
    }

    private static void slipByBounds() {
        Edge.bounds(Scene.RICH, 0, 0, 6, "slip", 0, 0, 0);
        Edge.bounds(Scene.RICH, 1, 0, 2, "slip", 0, 0, 0);
        Edge.bounds(Scene.RICH, 2, 0, 2, "slip", 0, 0, 0);
        Edge.bounds(Scene.RICH, 2, 0, 0, "slip", 0, 1, 0);
        Edge.bounds(Scene.RICH, 2, 0, 2, "slip", 0, 2, 0);
        Edge.bounds(Scene.BRIM, 2, 0, 8, "slip", 8, 0, 0);
        Edge.bounds(Scene.BRIM, 0, 0, 9, "slip", 8, 1, 0);
        Edge.bad(Scene.NO_LINES, "slip", 0, 0, 0);
        Edge.bad(Scene.NO_THINGS, "slip", 0, 0, 0);
    }

    /** BAD, also for a place beyond, then STATE, then FULL. */
    private static void slipRefused() {
        Edge.leaves(Scene.RICH, STATE, "slip", 1, 0, 0);
        Edge.leaves(Scene.RICH, STATE, "slip", 1, 1, 0);
        Edge.bad(Scene.RICH, "slip", 1, 0, 3);
        Edge.bad(Scene.RICH, "slip", 1, 0, -1);
        for (int i = 0; i <= 8; i++) {
            Edge.leaves(Scene.BRIM, FULL, "slip", 8, 0, i);
            Edge.leaves(Scene.BRIM, STATE, "slip", 7, 0, i);
        }
        Edge.bad(Scene.BRIM, "slip", 8, 0, 9);
        Edge.bad(Scene.BRIM, "slip", 7, 0, -1);
    }

    private static void slipAtEachPlace() {
        for (int place = 0; place <= 7; place++) {
            FirstPut x = Check.told("thing 1 1 1 1 1 1;".repeat(7) + "thing 3 1 1 1 1 1;line eldest 0 1 2 3 4 5 6;");
            Check.due("slip at " + place, x.slip(7, 0, place), 8);
            Check.due("its place", x.thing(7, 2), place);
            Check.due("who put it in", x.thing(7, 3), 3);
            for (int t = 0; t < 7; t++) {
                Check.due("the place of " + t, x.thing(t, 2), t < place ? t : t + 1);
                Check.due("who put " + t + " in", x.thing(t, 3), 1);
            }
        }
        FirstPut empty = Check.told("thing 2 0 0 0 0 0;line latest;");
        Check.due("where nothing lies", empty.slip(0, 0, 0), 1);
        Check.due("it is given", empty.draw(0, 0), 0);
    }

    private static void comeByBounds() {
        Edge.bounds(Scene.NO_THINGS, 0, 7, 99, "come", 7, 0, 0, NONE);
        Edge.bounds(Scene.RICH, 0, 9, 99, "come", 9, 0, 0, NONE);
        Edge.bounds(Scene.RICH, 1, 0, 3, "come", 9, 0, 0, NONE);
        Edge.bounds(Scene.RICH, 2, 0, 2, "come", 9, 0, 0, NONE);
        int[] things = {NONE, 0, 1, 2, 3, 4, 5, 6};
        Edge.only(Scene.RICH, 3, things, "come", 9, 0, 0, 0);
        Edge.only(Scene.NO_THINGS, 3, new int[] {NONE}, "come", 9, 0, 0, 0);
        Edge.bad(Scene.NO_LINES, "come", 0, 0, 0, 0);
        Edge.bad(Scene.NO_LINES, "come", 0, 0, 0, NONE);
        Edge.bad(Scene.NEW, "come", 0, 0, 0, NONE);
    }

    private static void comeByDays() {
        FirstPut x = Check.told("line eldest;");
        Check.due("day -1", x.come(-1, 0, 0, NONE), BAD);
        Check.due("day 100", x.come(100, 0, 0, NONE), BAD);
        Check.due("day 0", x.come(0, 0, 0, NONE), 1);
        Check.due("day 50", x.come(50, 0, 0, NONE), 2);
        Check.due("day 49", x.come(49, 0, 0, NONE), BAD);
        Check.due("day 50 again", x.come(50, 0, 0, NONE), 3);
        Check.due("day 99", x.come(99, 0, 0, NONE), 4);
        Check.due("day 98", x.come(98, 0, 0, NONE), BAD);
        x.cut(3);
        Check.due("day 49 behind 50", x.come(49, 0, 0, NONE), BAD);
        Check.due("day 50 behind 50", x.come(50, 0, 0, NONE), 4);
        x.go(4);
        Check.due("no last one", x.come(0, 0, 0, NONE), 1);
        x.come(60, 0, 0, NONE);
        x.go(1);
        Check.due("the last one is left", x.come(59, 0, 0, NONE), BAD);
        Check.due("its day", x.come(60, 0, 0, NONE), 2);
    }

    /** BAD ahead of FULL; the twelfth is taken. */
    private static void comeUpToTwelve() {
        FirstPut x = Check.told("thing 0 0 0 0 0 0;line eldest;");
        for (int i = 1; i <= 12; i++) {
            Check.due("the VISIT number " + i, x.come(i, i % 4, 0, i % 2 == 0 ? 0 : NONE), i);
        }
        Check.due("the thirteenth", x.come(99, 0, 0, 0), FULL);
        Check.due("the thirteenth, a DRAW", x.come(12, 0, 0, NONE), FULL);
        Check.due("a day less", x.come(11, 0, 0, NONE), BAD);
        Edge.leaves(Scene.BRIM, FULL, "come", 99, 0, 0, NONE);
        Edge.leaves(Scene.BRIM, FULL, "come", 99, 3, 2, 9);
        Edge.bad(Scene.BRIM, "come", 98, 0, 0, NONE);
        Edge.bad(Scene.BRIM, "come", 100, 0, 0, NONE);
        Edge.bad(Scene.BRIM, "come", 99, 4, 0, NONE);
        Edge.bad(Scene.BRIM, "come", 99, 0, 3, NONE);
        Edge.bad(Scene.BRIM, "come", 99, 0, 0, 10);
        x.cut(11);
        Check.due("room again", x.come(99, 0, 0, 0), 12);
        x.go(1);
        Check.due("room again by go", x.come(99, 0, 0, 0), 12);
        Check.due("full again", x.come(99, 0, 0, 0), FULL);
    }

    private static void cut() {
        Edge.bounds(Scene.NEW, 0, 0, 0, "cut", 0);
        Edge.bounds(Scene.RICH, 0, 0, 6, "cut", 0);
        Edge.bounds(Scene.BRIM, 0, 0, 12, "cut", 0);
        Edge.leaves(Scene.NEW, 0, "cut", 0);
        Edge.leaves(Scene.RICH, 6, "cut", 6);
        Edge.leaves(Scene.BRIM, 12, "cut", 12);
        FirstPut x = Scene.BRIM.made();
        for (int n = 11; n >= 0; n--) {
            Check.due("cut(" + n + ")", x.cut(n), n + 1);
            Check.due("cut by one more", x.cut(n + 1), BAD);
            Check.due("how many there are", x.count(2), n);
        }
    }

    private static void go() {
        Edge.bounds(Scene.NEW, 0, 0, 0, "go", 0);
        Edge.bounds(Scene.RICH, 0, 0, 6, "go", 0);
        Edge.bounds(Scene.BRIM, 0, 0, 12, "go", 0);
        for (Scene scene : Scene.values()) {
            Edge.leaves(scene, 0, "go", 0);
        }
        FirstPut x = Scene.BRIM.made();
        Check.due("all of them", x.go(12), 5);
        Check.due("none is told", x.count(2), 0);
        Check.due("go(1) then", x.go(1), BAD);
        Check.due("go(0) then", x.go(0), 0);
        Check.due("what was drawn", x.holds(3), 512 + 0b11111100);
        Check.due("the one that was put in", x.thing(8, 1), 10);
        FirstPut y = Scene.BRIM.made();
        y.go(11);
        Check.due("the last one is the first now", y.visit(0, 3), 8);
        Check.due("and the only one", y.visit(1, 3), BAD);
    }

    /** In VAIN: he does not HOLD it, there is no room, nothing lies there. */
    private static void goInVain() {
        FirstPut x = Check.told("thing 0 0 0 0 0 0;thing 1 0 0 0 0 0;line eldest;draw 0 2 0;put 1 0 0 1;put 2 0 0 0;"
            + "put 3 0 0 0;draw 4 3 0;draw 5 3 0;");
        int[] due = {1, 1, 0, 1, 0, 1};
        for (int i = 0; i < due.length; i++) {
            Check.due("VISIT " + i + " is in vain", x.go(1), due[i]);
        }
        Check.due("what came of it", x.holds(3), 1);
        FirstPut full = Check.told("thing 0 0 0 0 0 0;".repeat(9) + "line latest 0 1 2 3 4 5 6 7;put 0 0 0 8;put 1 0 0 8;");
        Check.due("no room, twice", full.go(2), 2);
        Check.due("he holds it still", full.holds(0), 256);
    }
}
