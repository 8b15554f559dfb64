/** Promises 12 to 17: by hand. */
public final class HandPromises {
    private static final int NONE = FirstPut.NONE;
    private static final int BAD = FirstPut.BAD;
    private static final int STATE = FirstPut.STATE;
    private static final int FULL = FirstPut.FULL;
    private static final String NINE = "thing 0 3 1 1 1 1;".repeat(9);

    public static void main(String[] args) {
        put();
        draw();
        slip();
        come();
        cut();
        go();
        Check.finish();
    }

    private static void put() {
        FirstPut x = Check.told("thing 0 5 9 1 3 0;thing 1 2 4 8 2 7;thing 2 7 6 6 6 6;line eldest 2;line latest;");
        Check.due("put behind another", x.put(0, 0, 0), 1);
        Check.due("who put it in", x.thing(0, 3), 0);
        Check.due("where it is", x.thing(0, 1), 10);
        Check.due("put into nothing", x.put(1, 1, 1), 0);
        Check.due("put what lies there", x.put(0, 0, 0), STATE);
        Check.due("put what another put in", x.put(3, 2, 1), STATE);
        Check.due("put(4, 0, 0)", x.put(4, 0, 0), BAD);
        Check.due("put(-1, 0, 0)", x.put(-1, 0, 0), BAD);
        Check.due("put(0, 3, 0)", x.put(0, 3, 0), BAD);
        Check.due("put(0, -1, 0)", x.put(0, -1, 0), BAD);
        Check.due("put(0, 0, 2)", x.put(0, 0, 2), BAD);
        Check.due("put(0, 0, -1)", x.put(0, 0, -1), BAD);
        FirstPut y = Check.told(NINE + "line latest 0 1 2 3 4 5 6;");
        Check.due("the eighth", y.put(0, 7, 0), 7);
        Check.due("the ninth", y.put(0, 8, 0), FULL);
        Check.due("what is refused changes nothing", y.thing(8, 1), 0);
        Check.due("not his, and no room", y.put(1, 8, 0), STATE);
    }

    private static void draw() {
        FirstPut x = Check.told("thing 0 5 0 0 0 0;thing 0 2 0 0 0 0;thing 0 2 0 0 0 0;thing 0 9 0 0 0 0;"
            + "thing 0 4 0 0 0 0;thing 0 4 0 0 0 0;line lightest 0 2 3 1;line eldest 4 5;line latest;");
        int[] lightest = {2, 1, 0, 3, NONE};
        for (int t : lightest) {
            Check.due("draw(3, 0)", x.draw(3, 0), t);
        }
        Check.due("he holds them", x.holds(3), 15);
        Check.due("the eldest", x.draw(1, 1), 4);
        Check.due("in vain", x.draw(1, 2), NONE);
        x.put(3, 3, 2);
        x.put(1, 4, 2);
        Check.due("the latest", x.draw(2, 2), 4);
        Check.due("the latest then", x.draw(2, 2), 3);
        FirstPut full = Check.told(NINE + "line eldest;line latest;line eldest 8 7 6 5 4 3 2 1;");
        Check.due("the eldest of a full last line", full.draw(0, 2), 8);
        Check.due("the last one moved up", full.thing(1, 2), 6);
        Check.due("draw(4, 0)", x.draw(4, 0), BAD);
        Check.due("draw(-1, 0)", x.draw(-1, 0), BAD);
        Check.due("draw(0, 3)", x.draw(0, 3), BAD);
        Check.due("draw(0, -1)", x.draw(0, -1), BAD);
    }

    private static void slip() {
        FirstPut x = Check.told("thing 0 5 0 0 0 0;thing 1 2 0 0 0 0;thing 2 2 0 0 0 0;thing 3 9 0 0 0 0;"
            + "thing 3 9 0 0 0 0;line eldest 0 1;");
        Check.due("slip in the middle", x.slip(2, 0, 1), 3);
        Check.due("its place", x.thing(2, 2), 1);
        Check.due("who held it put it in", x.thing(2, 3), 2);
        Check.due("the one behind it", x.thing(1, 2), 2);
        Check.due("slip ahead of all", x.slip(3, 0, 0), 4);
        Check.due("it is given first", x.line(0, 2), 3);
        Check.due("slip what lies there", x.slip(3, 0, 0), STATE);
        Check.due("slip(4, 0, 5)", x.slip(4, 0, 5), BAD);
        Check.due("slip(4, 0, -1)", x.slip(4, 0, -1), BAD);
        Check.due("slip(5, 0, 0)", x.slip(5, 0, 0), BAD);
        Check.due("slip(4, 1, 0)", x.slip(4, 1, 0), BAD);
        Check.due("slip behind all", x.slip(4, 0, 4), 5);
        Check.due("its place", x.thing(4, 2), 4);
        FirstPut y = Check.told(NINE + "line latest 0 1 2 3 4 5 6 7;");
        Check.due("no room", y.slip(8, 0, 8), FULL);
        Check.due("no room, and nobody holds it", y.slip(7, 0, 8), STATE);
        Check.due("no room, and beyond", y.slip(8, 0, 9), BAD);
        Check.due("nothing changed", y.thing(8, 1), 0);
    }

    private static void come() {
        FirstPut x = Check.told("thing 0 5 0 0 0 0;line eldest;line latest;");
        Check.due("come(3, 1, 1, NONE)", x.come(3, 1, 1, NONE), 1);
        Check.due("the same day", x.come(3, 0, 0, 0), 2);
        Check.due("a day less", x.come(2, 0, 0, 0), BAD);
        Check.due("come(100, ..)", x.come(100, 0, 0, 0), BAD);
        Check.due("come(-1, ..)", x.come(-1, 0, 0, 0), BAD);
        Check.due("come(3, 4, ..)", x.come(3, 4, 0, 0), BAD);
        Check.due("come(3, 0, 2, ..)", x.come(3, 0, 2, 0), BAD);
        Check.due("come(3, 0, 0, 1)", x.come(3, 0, 0, 1), BAD);
        Check.due("come(3, 0, 0, -1)", x.come(3, 0, 0, -1), BAD);
        for (int i = 3; i <= 12; i++) {
            Check.due("come " + i, x.come(99, 3, 0, 0), i);
        }
        Check.due("visit(11, 0)", x.visit(11, 0), 99);
        Check.due("the 13th", x.come(99, 3, 0, 0), FULL);
        Check.due("the 13th, a day less", x.come(98, 3, 0, 0), BAD);
        x.cut(0);
        Check.due("a day less than those that were cut", x.come(0, 3, 0, 0), 1);
    }

    private static void cut() {
        FirstPut x = Check.told("line eldest;draw 1 0 0;draw 2 1 0;draw 3 2 0;");
        Check.due("cut(4)", x.cut(4), BAD);
        Check.due("cut(-1)", x.cut(-1), BAD);
        Check.due("cut(3)", x.cut(3), 3);
        Check.due("cut(1)", x.cut(1), 3);
        Check.due("the first stays", x.visit(0, 0), 1);
        Check.due("the second is gone", x.visit(1, 0), BAD);
        Check.due("cut(0)", x.cut(0), 1);
        Check.due("cut(0) of none", x.cut(0), 0);
    }

    private static void go() {
        FirstPut x = Check.told(NINE + "line eldest 1 2 3 4 5 6 7 8;line latest;"
            + "put 1 0 0 0;draw 2 1 1;draw 3 3 0;put 4 1 0 0;put 5 0 0 0;draw 6 2 0;");
        Check.due("go(7)", x.go(7), BAD);
        Check.due("go(-1)", x.go(-1), BAD);
        Check.due("go(0)", x.go(0), 0);
        Check.due("no room, nothing there, one that came", x.go(3), 2);
        Check.due("they are told no more", x.count(2), 3);
        Check.due("the next is the first", x.visit(0, 0), 4);
        Check.due("what was put in vain is held", x.thing(0, 1), 0);
        Check.due("what was drawn", x.holds(3), 2);
        Check.due("he does not hold it; two that came", x.go(3), 1);
        Check.due("it lies there last", x.thing(0, 2), 6);
        Check.due("no visits are left", x.count(2), 0);
    }
}
