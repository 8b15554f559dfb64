/** Edges of promises 6 to 11 and 42: what is asked of THINGS, LINES, VISITS, CHANCE, PEOPLE, and how many there are. */
public final class AskingEdges {
    private static final int BAD = FirstPut.BAD;
    private static final int NONE = FirstPut.NONE;

    public static void main(String[] args) {
        things();
        whereAThingIs();
        thingsByBounds();
        lines();
        ithThing();
        whatADrawGives();
        visits();
        visitsByBounds();
        chance();
        holds();
        worth();
        count();
        countsOfTheBrim();
        Check.finish();
    }

    private static void things() {
        Edge.bounds(Scene.RICH, 0, 0, 6, "thing", 0, 0);
        Edge.bounds(Scene.BRIM, 0, 0, 9, "thing", 0, 0);
        Edge.bounds(Scene.NO_LINES, 0, 0, 1, "thing", 0, 13);
        Edge.only(Scene.RICH, 1, new int[] {0, 1, 2, 3, 10, 11, 12, 13}, "thing", 6, 0);
        Edge.only(Scene.NO_THINGS, 0, new int[] {}, "thing", 0, 0);
        Edge.bad(Scene.RICH, "thing", Integer.MIN_VALUE, Integer.MAX_VALUE);
        Edge.bad(Scene.RICH, "thing", Integer.MAX_VALUE, Integer.MIN_VALUE);
    }

    private static void whereAThingIs() {
        FirstPut x = Check.told("thing 0 0 0 0 0 0;thing 3 0 0 0 0 0;" + "thing 2 0 0 0 0 0;".repeat(8)
            + "line eldest 2;line latest 3;line lightest 4 5 6 7 8 9;");
        int[] where = {0, 3, 10, 11, 12, 12};
        int[] place = {NONE, NONE, 0, 0, 0, 1};
        int[] by = {NONE, NONE, 2, 2, 2, 2};
        for (int t = 0; t < where.length; t++) {
            Check.due("where " + t + " is", x.thing(t, 1), where[t]);
            Check.due("its place", x.thing(t, 2), place[t]);
            Check.due("who put it in", x.thing(t, 3), by[t]);
        }
        x.put(0, 0, 2);
        Check.due("put in behind six", x.thing(0, 2), 6);
        Check.due("by ONE 0", x.thing(0, 3), 0);
        x.put(3, 1, 2);
        Check.due("the eighth place", x.thing(1, 2), 7);
        Check.due("by ONE 3", x.thing(1, 3), 3);
        x.draw(1, 0);
        Check.due("drawn from a line that is empty then", x.thing(2, 1), 1);
        Check.due("no place", x.thing(2, 2), NONE);
        Check.due("it lies nowhere", x.thing(2, 3), NONE);
    }

    private static void thingsByBounds() {
        FirstPut least = Check.told("thing 0 0 0 0 0 0;");
        FirstPut most = Check.told("thing 3 9 20 20 20 20;");
        int[] asked = {0, 1, 10, 11, 12, 13};
        int[] greatest = {9, 3, 20, 20, 20, 20};
        for (int i = 0; i < asked.length; i++) {
            Check.due("the least, thing(0, " + asked[i] + ")", least.thing(0, asked[i]), 0);
            Check.due("the greatest, thing(0, " + asked[i] + ")", most.thing(0, asked[i]), greatest[i]);
        }
    }

    private static void lines() {
        Edge.bounds(Scene.RICH, 0, 0, 2, "line", 0, 0);
        Edge.only(Scene.RICH, 1, new int[] {0, 1, 2, 10, 11}, "line", 0, 0);
        Edge.only(Scene.RICH, 1, new int[] {0, 1, 2}, "line", 1, 0);
        Edge.only(Scene.BRIM, 1, new int[] {0, 1, 2, 10, 11, 12, 13, 14, 15, 16, 17}, "line", 0, 0);
        Edge.only(Scene.NO_THINGS, 1, new int[] {0, 1, 2}, "line", 2, 0);
        Edge.only(Scene.NO_LINES, 0, new int[] {}, "line", 0, 0);
        FirstPut one = Check.told("line latest;");
        Check.due("the one line", one.line(0, 0), 1);
        Check.due("no second line", one.line(1, 0), BAD);
        FirstPut two = Check.told("line latest;line lightest;");
        Check.due("the second line", two.line(1, 0), 2);
        Check.due("no third line", two.line(2, 0), BAD);
    }

    /** The i-th THING is there up to the last one that lies there, and no more when it has been drawn. */
    private static void ithThing() {
        FirstPut x = Scene.BRIM.made();
        for (int i = 0; i < 8; i++) {
            Check.due("line(0, 10 and " + i + ")", x.line(0, 10 + i), 7 - i);
        }
        for (int lie = 7; lie >= 0; lie--) {
            x.draw(1, 0);
            Check.due("how many lie there", x.line(0, 1), lie);
            Check.due("behind the last one", x.line(0, 10 + lie), BAD);
            Check.due("the last one", x.line(0, 9 + lie), lie == 0 ? BAD : 0);
        }
        Check.due("the next place of another line is not this one's", x.line(1, 10), BAD);
    }

    private static void whatADrawGives() {
        FirstPut none = Scene.NO_THINGS.made();
        for (int l = 0; l < 3; l++) {
            Check.due("what line " + l + " gives", none.line(l, 2), NONE);
            Check.due("how many lie there", none.line(l, 1), 0);
            Check.due("its kind", none.line(l, 0), l);
        }
        String alike = "thing 0 4 0 0 0 0;thing 0 4 0 0 0 0;thing 0 4 0 0 0 0;thing 0 3 0 0 0 0;thing 0 4 0 0 0 0;";
        Check.due("of several the first", Check.told(alike + "line lightest 2 0 1;").line(0, 2), 2);
        Check.due("the last is lightest", Check.told(alike + "line lightest 2 0 1 3;").line(0, 2), 3);
        Check.due("the first is lightest", Check.told(alike + "line lightest 3 2 0;").line(0, 2), 3);
        Check.due("one alone", Check.told(alike + "line lightest 4;").line(0, 2), 4);
        FirstPut x = Check.told(alike + "line lightest 2 0 1;");
        x.slip(4, 0, 0);
        Check.due("of several the first is one slipped in", x.line(0, 2), 4);
        x.put(0, 3, 0);
        Check.due("the lightest put in last", x.line(0, 2), 3);
        FirstPut y = Check.told(alike + "line eldest 2 0;line latest 1 3;");
        y.slip(4, 0, 0);
        Check.due("the eldest is the first, slipped in", y.line(0, 2), 4);
        y.draw(0, 0);
        y.slip(4, 1, 2);
        Check.due("the latest is the last, slipped in", y.line(1, 2), 4);
    }

    private static void visits() {
        Edge.bounds(Scene.RICH, 0, 0, 5, "visit", 0, 0);
        Edge.bounds(Scene.BRIM, 0, 0, 11, "visit", 0, 3);
        Edge.bounds(Scene.NO_THINGS, 0, 0, 0, "visit", 0, 1);
        Edge.only(Scene.RICH, 1, new int[] {0, 1, 2, 3}, "visit", 5, 0);
        Edge.only(Scene.NO_LINES, 0, new int[] {}, "visit", 0, 0);
        FirstPut x = Scene.RICH.made();
        x.cut(2);
        Check.due("the last one left", x.visit(1, 0), 2);
        Check.due("one that was cut", x.visit(2, 0), BAD);
        x.go(1);
        Check.due("the last one left by go", x.visit(0, 0), 2);
        Check.due("one behind it", x.visit(1, 0), BAD);
    }

    private static void visitsByBounds() {
        FirstPut x = Check.told("thing 0 0 0 0 0 0;".repeat(10) + "line eldest;line eldest;line eldest;"
            + "put 0 0 0 0;draw 0 0 0;put 99 3 2 9;draw 99 3 2;");
        int[][] due = {{0, 0, 0, 0}, {0, 0, 0, NONE}, {99, 3, 2, 9}, {99, 3, 2, NONE}};
        for (int i = 0; i < due.length; i++) {
            for (int what = 0; what < 4; what++) {
                Check.due("visit(" + i + ", " + what + ")", x.visit(i, what), due[i][what]);
            }
        }
    }

    private static void chance() {
        for (Scene scene : Scene.values()) {
            Edge.bounds(scene, 0, 0, 10, "chance", 0);
        }
        FirstPut x = new FirstPut();
        int was = 10;
        for (int v = 0; v <= 10; v++) {
            Check.due("chance(" + v + ")", x.chance(v), was);
            Check.due("chance(-1)", x.chance(-1), BAD);
            Check.due("chance(11)", x.chance(11), BAD);
            was = v;
        }
        Check.due("chance told 0", Check.told("chance 0;").chance(1), 0);
        Check.due("chance told 10", Check.told("chance 10;").chance(1), 10);
        Check.due("chance not told", Check.told("line eldest;").chance(1), 10);
    }

    private static void holds() {
        for (Scene scene : Scene.values()) {
            Edge.bounds(scene, 0, 0, 3, "holds", 0);
            Edge.bounds(scene, 0, 0, 3, "worth", 0);
        }
        for (int p = 0; p < 4; p++) {
            FirstPut all = Check.told(("thing " + p + " 0 20 20 20 20;").repeat(10) + "line eldest;");
            for (int q = 0; q < 4; q++) {
                Check.due("holds(" + q + ") of " + p + "'s", all.holds(q), q == p ? 1023 : 0);
                Check.due("worth(" + q + ") of " + p + "'s", all.worth(q), q == p ? 200 : 0);
            }
            all.put(p, 9, 0);
            Check.due("without the last", all.holds(p), 511);
            all.put(p, 0, 0);
            Check.due("without the first", all.holds(p), 510);
            Check.due("worth without two", all.worth(p), 160);
        }
    }

    private static void worth() {
        FirstPut x = Check.told("thing 0 0 1 2 3 4;thing 1 0 1 2 3 4;thing 2 0 1 2 3 4;thing 3 0 1 2 3 4;");
        for (int p = 0; p < 4; p++) {
            Check.due("each one's own value", x.worth(p), p + 1);
        }
        FirstPut none = Check.told("thing 0 0 20 20 20 20;line eldest 0;");
        Check.due("what he put in is not his", none.worth(0), 0);
    }

    private static void count() {
        for (Scene scene : Scene.values()) {
            Edge.only(scene, 0, new int[] {0, 1, 2, 3, 4, 5, 6}, "count", 0);
        }
        FirstPut x = new FirstPut();
        x.sheet(0, 0, 0);
        Check.due("a sheet without cells is not nothing", x.count(6), 0);
        x.sheet(0, 2, 40);
        Check.due("forty cells", x.count(6), 40);
        x.keep(0);
        Check.due("one image", x.count(4), 1);
        x.keep(0);
        Check.due("the same image again", x.count(4), 1);
        x.keep(1);
        Check.due("two images", x.count(4), 2);
        FirstPut y = new FirstPut();
        y.keep(1);
        Check.due("image 1 alone", y.count(4), 1);
        y.sheet(1, 0, 5);
        y.sheet(3, 0, 5);
        Check.due("other sheets are not sheet 0", y.count(6), NONE);
    }

    private static void countsOfTheBrim() {
        FirstPut x = Scene.BRIM.made();
        int[] due = {10, 3, 12, 8, 2, 480, 40};
        for (int what = 0; what < due.length; what++) {
            Check.due("as many as there may be: count(" + what + ")", x.count(what), due[what]);
        }
    }
}
