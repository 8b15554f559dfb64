/** Edges of promises 23 to 28: one more. */
public final class OneMoreEdges {
    private static final int BAD = FirstPut.BAD;
    private static final int STATE = FirstPut.STATE;
    private static final int NONE = FirstPut.NONE;

    public static void main(String[] args) {
        extraByBounds();
        extraAtEachPlace();
        aimByBounds();
        aimAtEachPlace();
        trickByBounds();
        trickAtEachPlace();
        trickByRoom();
        mostByBounds();
        mostBySeven();
        mostOfSeveral();
        oddsByBounds();
        oddsByTen();
        oddsInLowestTerms();
        likeliestByBounds();
        likeliestOfSeveral();
        Check.finish();
    }

    private static void extraByBounds() {
        Edge.bounds(Scene.RICH, 0, 0, 3, "extra", 0, 0, 0);
        Edge.bounds(Scene.RICH, 1, 0, 2, "extra", 0, 0, 0);
        Edge.bounds(Scene.RICH, 2, 0, 1, "extra", 0, 0, 0);
        Edge.bounds(Scene.BRIM, 2, 0, 1, "extra", 3, 2, 0);
        Edge.bad(Scene.NO_LINES, "extra", 0, 0, 0);
        for (int what = 0; what < 2; what++) {
            Edge.leaves(Scene.NO_THINGS, NONE, "extra", 0, 0, what);
            Edge.leaves(Scene.RICH, NONE, "extra", 0, 1, what);
            Edge.leaves(Scene.BRIM, NONE, "extra", 0, 2, what);
        }
        Edge.leaves(Scene.RICH, 8, "extra", 1, 0, 0);
        Edge.leaves(Scene.RICH, 0, "extra", 1, 0, 1);
    }

    /** The only place at which something lies there is each of them in turn, the one behind all too. */
    private static void extraAtEachPlace() {
        for (int ahead = 0; ahead <= 11; ahead++) {
            FirstPut x = Check.told("thing 0 0 7 0 0 0;line eldest;" + "draw 0 2 0;".repeat(ahead) + "put 0 0 0 0;"
                + "draw 0 3 0;".repeat(11 - ahead));
            Check.due("value", x.extra(0, 0, 0), 7);
            Check.due("place", x.extra(0, 0, 1), ahead + 1);
        }
        FirstPut y = Check.told("thing 0 0 20 0 0 0;thing 0 0 20 0 0 0;line eldest 0 1;draw 0 0 0;");
        Check.due("the greatest value", y.extra(0, 0, 0), 20);
        Check.due("of several the first", y.extra(0, 0, 1), 0);
        Check.due("of no value", y.extra(3, 0, 0), 0);
        Check.due("of no value, the first", y.extra(3, 0, 1), 0);
    }

    private static void aimByBounds() {
        Edge.bounds(Scene.RICH, 0, 0, 6, "aim", 0, 0);
        Edge.bounds(Scene.RICH, 1, 0, 1, "aim", 0, 0);
        Edge.bounds(Scene.BRIM, 0, 0, 9, "aim", 0, 1);
        Edge.bad(Scene.NO_THINGS, "aim", 0, 0);
        for (int what = 0; what < 2; what++) {
            Edge.leaves(Scene.NO_LINES, NONE, "aim", 1, what);
            Edge.leaves(Scene.RICH, NONE, "aim", 5, what);
        }
        Edge.leaves(Scene.RICH, 2, "aim", 2, 0);
        Edge.leaves(Scene.RICH, 0, "aim", 2, 1);
    }

    private static void aimAtEachPlace() {
        for (int l = 0; l < 3; l++) {
            for (int ahead = 0; ahead <= 11; ahead += 11) {
                FirstPut x = Check.told("thing 0 0 7 0 0 0;line eldest;line latest;line lightest;" + "draw 0 2 0;".repeat(ahead)
                    + "put 0 0 " + l + " 0;" + "draw 0 3 0;".repeat(11 - ahead));
                Check.due("place", x.aim(0, 0), ahead + 1);
                Check.due("line", x.aim(0, 1), l);
            }
        }
        Check.due("ahead of all", Check.told("thing 0 0 0 0 0 0;line eldest 0;draw 0 0 0;").aim(0, 0), 0);
        Check.due("another is given", Check.told("thing 0 0 0 0 0 0;thing 0 0 0 0 0 0;line eldest 0 1;").aim(1, 0), NONE);
    }

    private static void trickByBounds() {
        Edge.bounds(Scene.RICH, 0, 0, 3, "trick", 0, 4, 1, 0);
        Edge.bounds(Scene.RICH, 1, 0, 6, "trick", 0, 4, 2, 0);
        Edge.bounds(Scene.RICH, 2, 0, 6, "trick", 0, 4, 1, 0);
        Edge.bounds(Scene.RICH, 3, 0, 2, "trick", 0, 4, 1, 0);
        Edge.bad(Scene.NO_THINGS, "trick", 0, 0, 1, 0);
        for (int t = 0; t < 7; t++) {
            Edge.bad(Scene.RICH, "trick", 0, t, t, 0);
        }
        Edge.leaves(Scene.RICH, STATE, "trick", 1, 4, 1, 0);
        Edge.leaves(Scene.RICH, STATE, "trick", 1, 1, 2, 0);
        Edge.bad(Scene.RICH, "trick", 1, 4, 4, 0);
        Edge.bad(Scene.RICH, "trick", 1, 4, 1, 3);
        for (int what = 0; what < 3; what++) {
            Edge.leaves(Scene.NO_LINES, NONE, "trick", 0, 0, 1, what);
            Edge.leaves(Scene.RICH, NONE, "trick", 0, 4, 5, what);
            Edge.leaves(Scene.BRIM, NONE, "trick", 3, 9, 8, what);
        }
    }

    /** What he would have comes with the last VISIT of twelve, and the LINE gives it behind all alone. */
    private static void trickAtEachPlace() {
        FirstPut x = Check.told("thing 0 9 0 0 0 0;thing 1 0 0 0 0 0;line latest;line lightest;line eldest;"
            + "draw 0 3 0;".repeat(11) + "put 0 1 1 1;");
        Check.due("i", x.trick(0, 0, 1, 0), 0);
        Check.due("j behind all", x.trick(0, 0, 1, 1), 12);
        Check.due("the line", x.trick(0, 0, 1, 2), 1);
        FirstPut last = Check.told("thing 0 0 0 0 0 0;thing 1 0 0 0 0 0;line eldest;" + "draw 0 3 0;".repeat(11) + "put 0 1 0 1;");
        Check.due("the rubbish is drawn by another ahead of it", last.trick(0, 0, 1, 0), 0);
        FirstPut late = Check.told("thing 0 0 0 0 0 0;thing 1 0 0 0 0 0;line eldest;put 0 1 0 1;");
        Check.due("behind all, i", late.trick(0, 0, 1, 0), 1);
        Check.due("behind all, j", late.trick(0, 0, 1, 1), 1);
        Check.due("no VISITS, ahead of it", Check.told("thing 0 0 0 0 0 0;thing 1 0 0 0 0 0;line eldest 1;").trick(0, 0, 1, 1), 0);
        FirstPut given = Check.told("thing 0 0 0 0 0 0;thing 1 0 0 0 0 0;line eldest;line eldest;put 0 0 0 0;put 1 1 0 1;"
            + "draw 2 3 0;put 3 1 1 1;");
        Check.due("his own VISIT with the rubbish is in vain", given.trick(0, 0, 1, 0), 0);
        Check.due("so it is drawn in its place", given.trick(0, 0, 1, 1), 3);
        FirstPut several = Check.told("thing 0 0 0 0 0 0;thing 1 0 0 0 0 0;line latest;line eldest;line eldest 1;");
        Check.due("of the lines just the one that gives it", several.trick(0, 0, 1, 2), 2);
    }

    private static void trickByRoom() {
        String nine = "thing 0 1 1 1 1 1;".repeat(9);
        Check.due("room for one", Check.told(nine + "line eldest 0 1 2 3 4 5 6;").trick(0, 8, 0, 0), 0);
        Check.due("no room", Check.told(nine + "line eldest 0 1 2 3 4 5 6 7;").trick(0, 8, 0, 0), NONE);
        FirstPut later = Check.told(nine + "line eldest 0 1 2 3 4 5 6 7;draw 0 3 0;draw 0 3 0;");
        Check.due("room from place 1 on", later.trick(0, 8, 1, 0), 1);
        Check.due("behind all", later.trick(0, 8, 2, 1), 2);
        FirstPut spent = Check.told("thing 0 1 0 0 0 0;thing 1 0 0 0 0 0;line eldest;line latest;put 0 0 1 0;put 1 1 0 1;");
        Check.due("he holds it at place 0 alone", spent.trick(0, 0, 1, 0), NONE);
        FirstPut full = Check.told(nine + "thing 1 1 1 1 1 1;line eldest 0 1 2 3 4 5 6;put 0 1 0 9;draw 1 3 0;");
        Check.due("the rubbish takes the last room", full.trick(0, 8, 9, 0), NONE);
    }

    private static void mostByBounds() {
        Edge.bounds(Scene.RICH, 0, 0, 3, "most", 0, 0);
        Edge.only(Scene.RICH, 1, new int[] {0, 10, 11, 12, 13, 14, 15}, "most", 1, 0);
        Edge.only(Scene.BRIM, 1, new int[] {0, 10, 11, 12, 13, 14, 15, 16, 17, 18, 19, 20, 21}, "most", 3, 0);
        Edge.only(Scene.NO_LINES, 1, new int[] {0}, "most", 3, 0);
        Edge.leaves(Scene.NEW, STATE, "most", 0, 0);
        Edge.leaves(Scene.NO_LINES, STATE, "most", 3, 0);
        Edge.bad(Scene.NEW, "most", 4, 0);
        Edge.bad(Scene.NEW, "most", 0, 10);
        Edge.bad(Scene.NEW, "most", 0, 1);
        Edge.leaves(Scene.NO_THINGS, 0, "most", 2, 0);
        Edge.leaves(Scene.NO_THINGS, 0, "most", 2, 10);
        Edge.leaves(Scene.NO_THINGS, NONE, "most", 1, 10);
        Edge.leaves(Scene.RICH, NONE, "most", 0, 10);
        Check.due("no VISITS: what he has now", Check.told("thing 0 0 9 0 0 0;line eldest;").most(0, 0), 9);
    }

    /** Seven DRAWS of his are taken, eight are not; DRAWS of others and what he puts in do not count. */
    private static void mostBySeven() {
        String start = "thing 0 0 5 5 5 5;thing 1 0 5 5 5 5;line eldest 0;line latest;line lightest 1;";
        FirstPut seven = Check.told(start + "draw 0 2 0;".repeat(7) + "draw 0 1 0;put 0 2 0 0;draw 0 3 0;draw 0 3 1;draw 0 0 1;");
        Check.due("seven: THING 0 is put in again, or drawn by another", seven.most(2, 0), 5);
        Check.due("the first DRAW", seven.most(2, 10), 0);
        Check.due("the next ones", seven.most(2, 11), 0);
        Check.due("the last one", seven.most(2, 16), 2);
        Check.due("another's", seven.most(2, 17), NONE);
        Check.due("what he puts in", seven.most(2, 18), NONE);
        Check.due("the twelfth", seven.most(2, 21), NONE);
        Check.due("a thirteenth", seven.most(2, 22), BAD);
        FirstPut eight = Check.told(start + "draw 0 2 0;".repeat(8));
        Check.due("eight", eight.most(2, 0), STATE);
        Check.due("eight, a line", eight.most(2, 17), STATE);
        Check.due("eight, no such VISIT", eight.most(2, 18), BAD);
        Check.due("eight of another", eight.most(1, 0), 0);
        eight.cut(7);
        Check.due("seven again", eight.most(2, 0), 10);
        FirstPut gone = Check.told(start + "draw 0 3 1;draw 0 2 0;");
        gone.cut(1);
        Check.due("a DRAW that was cut", gone.most(2, 0), 0);
        Check.due("no DRAW of his is left", gone.most(2, 10), NONE);
        gone.cut(0);
        Check.due("no VISIT is left", gone.most(2, 0), 0);
        FirstPut twelve = Check.told(start + "draw 0 2 0;".repeat(12));
        Check.due("twelve", twelve.most(2, 0), STATE);
    }

    private static void mostOfSeveral() {
        FirstPut x = Check.told("thing 3 0 4 0 0 0;thing 3 0 4 0 0 0;thing 3 0 9 0 0 0;line eldest 0;line eldest 1;"
            + "line latest 2;draw 0 0 0;draw 0 0 0;");
        Check.due("the greatest worth", x.most(0, 0), 13);
        Check.due("of several the first by lines", x.most(0, 10), 0);
        Check.due("then the next", x.most(0, 11), 2);
        Check.due("no worth whatever he does", x.most(1, 0), 0);
        FirstPut vain = Check.told("thing 0 0 6 0 0 0;line eldest;put 0 0 0 0;draw 0 0 0;");
        Check.due("what he puts in he draws again", vain.most(0, 0), 6);
        FirstPut away = Check.told("thing 0 0 6 0 0 0;line eldest;line latest;put 0 0 0 0;draw 0 0 1;");
        Check.due("from the other line", away.most(0, 11), 0);
    }

    private static void oddsByBounds() {
        Edge.bounds(Scene.RICH, 0, 0, 2, "odds", 0, 0, 0);
        Edge.bounds(Scene.RICH, 1, 0, 6, "odds", 0, 0, 0);
        Edge.bounds(Scene.RICH, 2, 0, 1, "odds", 0, 0, 0);
        Edge.bad(Scene.NO_LINES, "odds", 0, 0, 0);
        Edge.bad(Scene.NO_THINGS, "odds", 0, 0, 0);
        Edge.leaves(Scene.BRIM, STATE, "odds", 0, 0, 0);
        Edge.leaves(Scene.BRIM, STATE, "odds", 2, 9, 1);
        Edge.bad(Scene.BRIM, "odds", 3, 0, 0);
        Edge.bad(Scene.BRIM, "odds", 0, 10, 0);
        Edge.bad(Scene.BRIM, "odds", 0, 0, 2);
        Edge.leaves(Scene.RICH, 3, "odds", 0, 1, 0);
        Edge.leaves(Scene.RICH, 5, "odds", 0, 1, 1);
    }

    private static void oddsByTen() {
        for (int visits = 9; visits <= 12; visits++) {
            FirstPut x = Check.told("thing 0 0 0 0 0 0;line eldest 0;chance 9;" + "draw 1 0 0;".repeat(visits));
            Check.due(visits + " VISITS, above", x.odds(0, 0, 0), visits > 10 ? STATE : 1);
            Check.due(visits + " VISITS, below", x.odds(0, 0, 1), visits > 10 ? STATE : visits == 9 ? 1000000000L : 10000000000L);
            Check.due(visits + " VISITS, likeliest", x.likeliest(0), visits > 10 ? STATE : 0);
        }
        FirstPut y = Check.told("thing 0 0 0 0 0 0;line eldest 0;chance 1;" + "draw 1 0 0;".repeat(10));
        Check.due("9 to the tenth", y.odds(0, 0, 0), 3486784401L);
        Check.due("by 10 to the tenth", y.odds(0, 0, 1), 10000000000L);
        y.cut(0);
        Check.due("no VISITS", y.odds(0, 0, 0), 1);
        Check.due("no VISITS, below", y.odds(0, 0, 1), 1);
    }

    /** 0 is 0 by 1, 1 is 1 by 1, and what is between has no divisor in common. */
    private static void oddsInLowestTerms() {
        long[][] due = {{1, 1}, {9, 10}, {4, 5}, {7, 10}, {3, 5}, {1, 2}, {2, 5}, {3, 10}, {1, 5}, {1, 10}, {0, 1}};
        FirstPut x = Check.told("thing 0 0 0 0 0 0;line eldest 0;draw 0 1 0;line latest;");
        for (int v = 0; v <= 10; v++) {
            x.chance(v);
            Check.due("chance " + v + ", above", x.odds(0, 0, 0), due[v][0]);
            Check.due("chance " + v + ", below", x.odds(0, 0, 1), due[v][1]);
            Check.due("nothing lies there, above", x.odds(1, 0, 0), 0);
            Check.due("nothing lies there, below", x.odds(1, 0, 1), 1);
        }
        FirstPut all = Check.told("thing 0 0 0 0 0 0;line eldest 0;line latest;chance 5;" + "draw 0 1 1;".repeat(10));
        Check.due("sure, whoever comes", all.odds(0, 0, 0), 1);
        Check.due("sure, below", all.odds(0, 0, 1), 1);
    }

    private static void likeliestByBounds() {
        Edge.bounds(Scene.RICH, 0, 0, 2, "likeliest", 0);
        Edge.bounds(Scene.NO_THINGS, 0, 0, 2, "likeliest", 0);
        Edge.bad(Scene.NO_LINES, "likeliest", 0);
        Edge.leaves(Scene.BRIM, STATE, "likeliest", 0);
        Edge.leaves(Scene.BRIM, STATE, "likeliest", 2);
        Edge.bad(Scene.BRIM, "likeliest", 3);
        Edge.leaves(Scene.NO_THINGS, NONE, "likeliest", 0);
        Edge.leaves(Scene.RICH, NONE, "likeliest", 1);
        Edge.leaves(Scene.RICH, 1, "likeliest", 0);
    }

    private static void likeliestOfSeveral() {
        FirstPut x = Check.told("thing 0 0 0 0 0 0;thing 0 0 0 0 0 0;line eldest 1 0;draw 0 1 0;chance 5;");
        Check.due("of several the least", x.likeliest(0), 0);
        x.chance(4);
        Check.due("one a little likelier", x.likeliest(0), 1);
        FirstPut vain = Check.told("thing 0 0 0 0 0 0;line eldest 0;draw 0 1 0;chance 10;");
        Check.due("in vain always", vain.likeliest(0), NONE);
        vain.chance(9);
        Check.due("in vain mostly", vain.likeliest(0), 0);
        FirstPut last = Check.told("thing 0 0 0 0 0 0;".repeat(10) + "line eldest 9;");
        Check.due("the tenth THING", last.likeliest(0), 9);
    }
}
