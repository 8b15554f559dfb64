/** Edges of promises 18 to 22: runs. */
public final class RunEdges {
    private static final int BAD = FirstPut.BAD;
    private static final int STATE = FirstPut.STATE;
    private static final int NONE = FirstPut.NONE;

    public static void main(String[] args) {
        afterByBounds();
        afterEach();
        gainsByBounds();
        gainsOfAll();
        vain();
        lostByBounds();
        lostOfWhat();
        sinceByBounds();
        sinceFirst();
        aRunIsByItself();
        Check.finish();
    }

    private static void afterByBounds() {
        Edge.bounds(Scene.RICH, 0, 0, 6, "after", 0, 0);
        Edge.bounds(Scene.RICH, 1, 0, 6, "after", 0, 0);
        Edge.bounds(Scene.BRIM, 0, 0, 12, "after", 0, 9);
        Edge.bounds(Scene.BRIM, 1, 0, 9, "after", 12, 0);
        Edge.bounds(Scene.NO_LINES, 0, 0, 0, "after", 0, 1);
        Edge.bad(Scene.NO_THINGS, "after", 0, 0);
        Edge.bad(Scene.NO_THINGS, "after", 1, 0);
        Edge.bad(Scene.RICH, "after", Integer.MAX_VALUE, Integer.MIN_VALUE);
    }

    /** Behind none it is where it is now; behind all as go() leaves it. */
    private static void afterEach() {
        FirstPut x = Scene.BRIM.made();
        int[] where = {0, 0, 10, 10, 10};
        for (int n = 0; n < where.length; n++) {
            Check.due("after(" + n + ", 8)", x.after(n, 8), where[n]);
        }
        Check.due("after(0, 7)", x.after(0, 7), 10);
        Check.due("after(1, 7)", x.after(1, 7), 3);
        Check.due("after(10, 2)", x.after(10, 2), 10);
        Check.due("after(11, 2)", x.after(11, 2), 3);
        Check.due("after(12, 1)", x.after(12, 1), 10);
        Check.due("nothing has changed", x.thing(7, 1), 10);
        for (Scene scene : Scene.values()) {
            FirstPut run = scene.made();
            FirstPut gone = scene.made();
            int all = run.count(2);
            gone.go(all);
            for (int t = 0; t < run.count(0); t++) {
                Check.due(scene + ": after(" + all + ", " + t + ")", run.after(all, t), gone.thing(t, 1));
                Check.due(scene + ": after(0, " + t + ")", run.after(0, t), run.thing(t, 1));
            }
        }
    }

    private static void gainsByBounds() {
        Edge.bounds(Scene.RICH, 0, 0, 6, "gains", 0, 0);
        Edge.bounds(Scene.RICH, 1, 0, 3, "gains", 6, 0);
        Edge.bounds(Scene.BRIM, 0, 0, 12, "gains", 0, 3);
        Edge.bounds(Scene.NEW, 0, 0, 0, "gains", 0, 0);
        Edge.bounds(Scene.NEW, 1, 0, 3, "gains", 0, 0);
        Edge.bad(Scene.NEW, "gains", Integer.MIN_VALUE, Integer.MAX_VALUE);
    }

    private static void gainsOfAll() {
        FirstPut x = Scene.BRIM.made();
        Check.due("gains(0, 0)", x.gains(0, 0), 20);
        Check.due("gains(1, 0)", x.gains(1, 0), 20);
        Check.due("gains(2, 0)", x.gains(2, 0), 0);
        Check.due("gains(12, 0)", x.gains(12, 0), 0);
        Check.due("gains(0, 3)", x.gains(0, 3), 0);
        Check.due("gains(1, 3)", x.gains(1, 3), 4);
        Check.due("gains(11, 3)", x.gains(11, 3), 24);
        Check.due("gains(12, 3)", x.gains(12, 3), 24);
        FirstPut all = Check.told("thing 1 0 20 20 20 20;".repeat(8) + "line eldest 0 1 2 3 4 5 6 7;" + "draw 0 2 0;".repeat(9));
        Check.due("eight of the greatest value", all.gains(9, 2), 160);
        Check.due("seven of them", all.gains(7, 2), 140);
    }

    private static void vain() {
        Check.due("a new object", new FirstPut().vain(), 0);
        Check.due("no lines", Scene.NO_LINES.made().vain(), 0);
        Check.due("nothing lies there", Scene.NO_THINGS.made().vain(), 1);
        Check.due("some", Scene.RICH.made().vain(), 4 + 32);
        Check.due("twelve", Scene.BRIM.made().vain(), 0b101010101000);
        Check.due("all of twelve", Check.told("line eldest;" + "draw 0 0 0;".repeat(12)).vain(), 4095);
        FirstPut last = Check.told("thing 0 0 0 0 0 0;line eldest;" + "put 0 0 0 0;draw 0 0 0;".repeat(5) + "put 0 0 0 0;put 0 0 0 0;");
        Check.due("the last one alone", last.vain(), 2048);
        Check.due("who does not hold it", Check.told("thing 0 0 0 0 0 0;line eldest;put 0 1 0 0;put 0 0 0 0;").vain(), 1);
    }

    private static void lostByBounds() {
        for (Scene scene : Scene.values()) {
            Edge.bounds(scene, 0, 0, 3, "lost", 0);
        }
    }

    private static void lostOfWhat() {
        String two = "thing 0 0 0 0 0 0;thing 1 0 0 0 0 0;line eldest;line eldest;";
        Check.due("it lies in a line behind it", Check.told(two + "put 0 0 0 0;").lost(0), 0);
        Check.due("another holds it", Check.told(two + "put 0 0 0 0;draw 0 3 0;").lost(0), 1);
        Check.due("he holds it again", Check.told(two + "put 0 0 0 0;draw 0 0 0;").lost(0), 0);
        Check.due("another had it between", Check.told(two + "put 0 0 0 0;draw 0 3 0;put 0 3 0 0;draw 0 0 0;").lost(0), 0);
        Check.due("who had it between lost it", Check.told(two + "put 0 0 0 0;draw 0 3 0;put 0 3 0 0;draw 0 0 0;").lost(3), 1);
        Check.due("put in in vain", Check.told(two + "put 0 1 0 0;put 0 0 0 0;draw 0 3 0;").lost(1), 0);
        FirstPut lies = Check.told("thing 0 0 0 0 0 0;line eldest 0;draw 0 3 0;");
        Check.due("what he put in ahead of the run", lies.lost(0), 0);
        Check.due("who draws it", lies.lost(3), 0);
        FirstPut ahead = Check.told("thing 1 0 0 0 0 0;thing 1 0 0 0 0 0;thing 0 0 0 0 0 0;line eldest 0 1;draw 0 3 0;put 0 0 0 2;draw 0 3 0;");
        Check.due("another lies ahead of it, each VISIT comes once", ahead.lost(0), 0);
        FirstPut all = Check.told("thing 2 0 0 0 0 0;".repeat(6) + "line eldest;put 0 2 0 0;put 0 2 0 1;put 0 2 0 2;put 0 2 0 3;"
            + "put 0 2 0 4;put 0 2 0 5;" + "draw 1 1 0;".repeat(6));
        Check.due("all six", all.lost(2), 63);
        Check.due("who has them", all.lost(1), 0);
    }

    private static void sinceByBounds() {
        Edge.bounds(Scene.RICH, 0, 0, 3, "since", 0, 1);
        Edge.bounds(Scene.RICH, 1, 0, 6, "since", 1, 0);
        Edge.bounds(Scene.BRIM, 1, 0, 9, "since", 1, 0);
        Edge.bad(Scene.NO_THINGS, "since", 0, 0);
        Edge.leaves(Scene.RICH, STATE, "since", 0, 0);
        Edge.leaves(Scene.BRIM, STATE, "since", 3, 9);
        Edge.leaves(Scene.RICH, NONE, "since", 1, 5);
        Edge.leaves(Scene.NO_LINES, NONE, "since", 1, 0);
        Edge.bad(Scene.BRIM, "since", 4, 9);
        Edge.bad(Scene.BRIM, "since", 3, 10);
    }

    private static void sinceFirst() {
        FirstPut x = Scene.BRIM.made();
        Check.due("the first VISIT", x.since(3, 7), 0);
        Check.due("the last but one", x.since(3, 2), 10);
        Check.due("never", x.since(3, 1), NONE);
        FirstPut twice = Check.told("thing 0 0 0 0 0 0;line eldest;put 0 0 0 0;draw 0 1 0;put 0 1 0 0;draw 0 1 0;"
            + "put 0 1 0 0;draw 0 0 0;");
        Check.due("the first of two", twice.since(1, 0), 1);
        Check.due("he holds it now, and again behind all", twice.since(0, 0), STATE);
        FirstPut last = Check.told("thing 0 0 0 0 0 0;line eldest;line eldest 0;" + "draw 0 2 0;".repeat(11) + "draw 0 2 1;");
        Check.due("the twelfth", last.since(2, 0), 11);
    }

    /** None of these calls changes what there is. */
    private static void aRunIsByItself() {
        for (Scene scene : new Scene[] {Scene.RICH, Scene.BRIM}) {
            FirstPut asked = scene.made();
            int all = asked.count(2);
            Edge.leaves(scene, asked.after(all, 1), "after", all, 1);
            Edge.leaves(scene, asked.gains(all, 3), "gains", all, 3);
            Edge.leaves(scene, asked.vain(), "vain");
            Edge.leaves(scene, asked.lost(0), "lost", 0);
            Edge.leaves(scene, asked.since(3, 1), "since", 3, 1);
        }
        FirstPut x = Scene.RICH.made();
        Check.due("vain() and then", x.vain(), 36);
        Check.due("after() the same", x.after(6, 1), 3);
        Check.due("vain() again", x.vain(), 36);
        Check.due("no VISIT more is taken than there is", x.after(7, 1), BAD);
    }
}
