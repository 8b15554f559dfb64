/** Promises 1 to 11: the text, and what is asked of what it tells. */
public final class TextPromises {
    private static final int NONE = FirstPut.NONE;
    private static final int BAD = FirstPut.BAD;
    private static final int FULL = FirstPut.FULL;
    private static final String THING = "thing 0 0 0 0 0 0;";
    private static final String SMALL = "thing 0 5 9 1 3 0;thing 1 2 4 8 2 7;thing 2 7 6 6 6 6;line eldest 1 2;"
        + "line latest;put 3 0 0 0;draw 4 1 1;chance 7;";

    public static void main(String[] args) {
        newObject();
        tape();
        tokens();
        faultsOfNumbers();
        faultsOfPlace();
        faultsOfTooMany();
        faultsBehindAll();
        whatATextReplaces();
        things();
        lines();
        visits();
        chanceHoldsWorth();
        Check.finish();
    }

    private static void newObject() {
        FirstPut x = new FirstPut();
        for (int what = 0; what < 6; what++) {
            Check.due("new count(" + what + ")", x.count(what), 0);
        }
        Check.due("new count(6)", x.count(6), NONE);
        Check.due("new fault()", x.fault(), 0);
        Check.due("new torn()", x.torn(), 0);
        Check.due("new thing(0, 0)", x.thing(0, 0), BAD);
        Check.due("new line(0, 0)", x.line(0, 0), BAD);
        Check.due("new visit(0, 0)", x.visit(0, 0), BAD);
        Check.due("new holds(3)", x.holds(3), 0);
        Check.due("new worth(3)", x.worth(3), 0);
        Check.due("new lay(0, 0, 0)", x.lay(0, 0, 0), -11);
        Check.due("new chance(3)", x.chance(3), 10);
    }

    private static void tape() {
        FirstPut x = new FirstPut();
        Check.due("end(0) of nothing", x.end(0), 0);
        Check.due("end(1) of nothing", x.end(1), BAD);
        Check.due("end(-1)", x.end(-1), BAD);
        for (int i = 1; i <= 60; i++) {
            Check.due("feed " + i, x.feed(0x2020202020202020L), 8 * i);
        }
        Check.due("feed 61", x.feed(0), FULL);
        Check.due("count(5)", x.count(5), 480);
        Check.due("end(481)", x.end(481), BAD);
        Check.due("end(473)", x.end(473), 480);
        Check.due("feed beyond 480", x.feed(0), FULL);
        Check.due("end(472)", x.end(472), 473);
        Check.due("feed up to 480", x.feed(0x2020202020202020L), 480);
        Check.due("bank() of blanks", x.bank(), 0);
        Check.due("count(5) behind bank()", x.count(5), 0);
        Check.due("bank() of nothing", x.bank(), 0);
        x.feed(0xff00000000000001L);
        Check.due("the highest byte comes first", x.bank(), -10);
        Check.due("its fault", x.fault(), 1);
        Check.due("count(5) behind a fault", x.count(5), 0);
        x.feed(0x2020202020202080L);
        Check.due("the lowest byte comes last", x.bank(), -17);
    }

    private static void tokens() {
        Check.taken("thing0 0 0 0 0 0;", 1);
        Check.taken("  thing  0 00 07  0 0 20  ;   ", 1);
        Check.taken(";".substring(1), 0);
        Check.taken(THING + THING + "line eldest0 1;", 3);
        Check.taken(THING + THING + "line latest 1 0;draw 0 3 0;draw 99 0 0;", 5);
        Check.refused("lineeldest;", 2, 0);
        Check.refused("Thing 0 0 0 0 0 0;", 1, 0);
        Check.refused("thing 0 0 0 0 0 0;!", 1, 18);
        Check.refused("thing 0 100 0 0 0 0;", 1, 8);
        Check.refused("thing 000 0 0 0 0 0;", 1, 6);
        Check.refused("line 0123456789012;", 1, 5);
        Check.refused("thing\t0 0 0 0 0 0;", 1, 5);
        Check.refused("thing 0 0,0 0 0 0;", 1, 9);
        Check.refused("line \377;", 1, 5);
        Check.refused("chance 1 0;", 2, 9);
        Check.refused("chance 10", 2, 9);
        Check.refused("chance 10  ", 2, 11);
        Check.refused(" ".repeat(476) + "line", 2, 480);
        Check.refused(" ".repeat(471) + "chance 10", 2, 480);
        Check.refused(" ".repeat(471) + "chance100", 1, 477);
        Check.taken(" ".repeat(471) + "chance 9;", 1);
    }

    private static void faultsOfNumbers() {
        Check.taken("thing 3 9 20 20 20 20;", 1);
        Check.refused("thing 4 9 20 20 20 20;", 3, 6);
        Check.refused("thing 3 10 20 20 20 20;", 3, 8);
        Check.refused("thing 3 9 21 20 20 20;", 3, 10);
        Check.refused("thing 3 9 20 21 20 20;", 3, 13);
        Check.refused("thing 3 9 20 20 21 20;", 3, 16);
        Check.refused("thing 3 9 20 20 20 21;", 3, 19);
        Check.refused("line eldest 10;", 3, 12);
        Check.refused("draw 0 4 0;", 3, 7);
        Check.refused("draw 0 0 3;", 3, 9);
        Check.refused("put 0 4 0 0;", 3, 6);
        Check.refused("put 0 0 3 0;", 3, 8);
        Check.refused("put 0 0 0 10;", 3, 10);
        Check.refused("chance 11;", 3, 7);
        Check.taken("chance 0;", 1);
        Check.taken("chance 10;", 1);
        Check.taken("line eldest;draw 5 0 0;draw 5 0 0;", 3);
        Check.refused("line eldest;draw 5 0 0;draw 4 0 0;", 3, 28);
        Check.refused(THING + "line eldest;put 5 0 0 0;put 4 0 0 0;", 3, 46);
    }

    private static void faultsOfPlace() {
        Check.refused(";", 2, 0);
        Check.refused("7;", 2, 0);
        Check.refused("eldest;", 2, 0);
        Check.refused("things 0 0 0 0 0 0;", 2, 0);
        Check.refused("thin 0 0 0 0 0 0;", 2, 0);
        Check.refused("thing 0 0 0 0 0;", 2, 15);
        Check.refused("thing 0 0 0 0 0 0 0;", 2, 18);
        Check.refused("thing 0 0 0 0 0 0 thing", 2, 18);
        Check.refused("thing", 2, 5);
        Check.refused("thing 0 0 0 0 0 0", 2, 17);
        Check.refused("line;", 2, 4);
        Check.refused("line 0;", 2, 5);
        Check.refused("line oldest;", 2, 5);
        Check.refused("line eldest", 2, 11);
        Check.refused("line eldest 0 x;", 2, 14);
        Check.refused("draw 0 0;", 2, 8);
        Check.refused("draw 0 0 0 0;", 2, 11);
        Check.refused("put 0 0 0;", 2, 9);
        Check.refused("chance;", 2, 6);
        Check.refused("chance x;", 2, 7);
    }

    private static void faultsOfTooMany() {
        String ten = THING.repeat(10);
        Check.taken(ten, 10);
        Check.refused(ten + THING, 5, 180);
        Check.refused(ten + "thing!", 5, 180);
        Check.taken("line eldest;line latest;line lightest;", 3);
        Check.refused("line eldest;line latest;line lightest;line x", 5, 38);
        String lineAnd12 = "line eldest;" + "draw 0 0 0;".repeat(12);
        Check.taken(lineAnd12, 13);
        Check.refused(lineAnd12 + "draw 0 0 0;", 5, 144);
        Check.refused(lineAnd12 + " put 0 0 0 0;", 5, 145);
        Check.taken(ten + "line latest 9 8 7 6 5 4 3 2;", 11);
        Check.refused("line latest 9 8 7 6 5 4 3 2 1;", 5, 28);
        Check.refused("line latest 9 8 7 6 5 4 3 2 9;", 4, 28);
        Check.refused("line latest 9 8 7 6 5 4 3 2 10;", 3, 28);
        Check.refused("line latest 9 9;", 4, 14);
        Check.refused("line latest 1;line latest 2 1;", 4, 28);
        Check.refused("chance 1;chance", 4, 9);
    }

    private static void faultsBehindAll() {
        Check.refused("line eldest 0;", 6, 14);
        Check.refused("line eldest 0;  ", 6, 16);
        Check.taken("line eldest 0;" + THING, 2);
        Check.refused("draw 0 0 0;", 6, 11);
        Check.taken("draw 0 0 0;line eldest;", 2);
        Check.refused("draw 0 0 1;line eldest;", 6, 23);
        Check.refused("line eldest;put 0 0 0 0;", 6, 24);
        Check.refused("line eldest;put 0 0 0 1;" + THING, 6, 42);
        Check.taken("put 0 0 0 0;line eldest;" + THING, 3);
        Check.refused("line eldest 0;chance 11;", 3, 21);
    }

    private static void whatATextReplaces() {
        FirstPut x = Check.told(SMALL);
        x.noted(1);
        x.keep(0);
        x.keep(1);
        x.sheet(0, 0, 9);
        x.chance(2);
        Check.tell(x, "line eldest; line");
        Check.due("a fault's number", x.fault(), 2);
        Check.due("things stay by a fault", x.count(0), 3);
        Check.due("lines stay by a fault", x.count(1), 2);
        Check.due("visits stay by a fault", x.count(2), 2);
        Check.due("noted stays by a fault", x.count(3), 1);
        Check.due("images stay by a fault", x.count(4), 2);
        Check.due("places stay by a fault", x.thing(2, 1), 10);
        Check.tell(x, "line lightest 0 2;");
        Check.due("a fault behind all", x.fault(), 6);
        Check.due("the kind stays", x.line(0, 0), 0);
        Check.due("chance stays by a fault", x.chance(2), 2);
        Check.due("a text that is taken", Check.tell(x, "line latest;"), 1);
        Check.due("fault() then", x.fault(), 0);
        Check.due("things are gone", x.count(0), 0);
        Check.due("lines are new", x.count(1), 1);
        Check.due("visits are gone", x.count(2), 0);
        Check.due("noted is gone", x.count(3), 0);
        Check.due("images are gone", x.count(4), 0);
        Check.due("no image to go back to", x.back(0), FirstPut.STATE);
        Check.due("sheets stay", x.count(6), 9);
        Check.due("chance is as at first", x.chance(1), 10);
        Check.due("nothing lies in it", x.line(0, 1), 0);
        Check.due("holds of nothing", x.holds(0), 0);
    }

    private static void things() {
        FirstPut x = Check.told(SMALL);
        int[] of0 = {5, 0, NONE, NONE};
        int[] of2 = {7, 10, 1, 2};
        for (int what = 0; what < 4; what++) {
            Check.due("thing(0, " + what + ")", x.thing(0, what), of0[what]);
            Check.due("thing(2, " + what + ")", x.thing(2, what), of2[what]);
        }
        int[] value = {4, 8, 2, 7};
        for (int p = 0; p < 4; p++) {
            Check.due("thing(1, 10 and " + p + ")", x.thing(1, 10 + p), value[p]);
        }
        Check.due("thing(1, 2)", x.thing(1, 2), 0);
        Check.due("thing(0, 4)", x.thing(0, 4), BAD);
        Check.due("thing(0, 9)", x.thing(0, 9), BAD);
        Check.due("thing(0, 14)", x.thing(0, 14), BAD);
        Check.due("thing(0, -1)", x.thing(0, -1), BAD);
        Check.due("thing(3, 0)", x.thing(3, 0), BAD);
        Check.due("thing(-1, 0)", x.thing(-1, 0), BAD);
        x.draw(3, 0);
        Check.due("a drawn thing is held", x.thing(1, 1), 3);
        Check.due("a drawn thing has no place", x.thing(1, 2), NONE);
        Check.due("nobody put a drawn thing in", x.thing(1, 3), NONE);
        Check.due("who was behind is first", x.thing(2, 2), 0);
    }

    private static void lines() {
        FirstPut x = Check.told("thing 0 5 0 0 0 0;thing 0 2 0 0 0 0;thing 0 2 0 0 0 0;thing 0 9 0 0 0 0;"
            + "thing 0 1 0 0 0 0;line eldest 0 3;line lightest 4;line latest 1 2;");
        Check.due("line(0, 0)", x.line(0, 0), 0);
        Check.due("line(1, 0)", x.line(1, 0), 2);
        Check.due("line(2, 0)", x.line(2, 0), 1);
        Check.due("line(0, 1)", x.line(0, 1), 2);
        Check.due("line(0, 2): the first", x.line(0, 2), 0);
        Check.due("line(2, 2): the last", x.line(2, 2), 2);
        Check.due("line(0, 11)", x.line(0, 11), 3);
        Check.due("line(0, 12)", x.line(0, 12), BAD);
        Check.due("line(0, 3)", x.line(0, 3), BAD);
        Check.due("line(0, 9)", x.line(0, 9), BAD);
        Check.due("line(0, -1)", x.line(0, -1), BAD);
        Check.due("line(3, 0)", x.line(3, 0), BAD);
        Check.due("line(-1, 0)", x.line(-1, 0), BAD);
        x.draw(0, 1);
        Check.due("line(1, 1) of nothing", x.line(1, 1), 0);
        Check.due("line(1, 2) of nothing", x.line(1, 2), NONE);
        Check.due("line(1, 10) of nothing", x.line(1, 10), BAD);
        FirstPut y = Check.told("thing 0 5 0 0 0 0;thing 0 2 0 0 0 0;thing 0 2 0 0 0 0;thing 0 9 0 0 0 0;"
            + "line lightest 0 2 3 1;");
        Check.due("the lightest, of several the first", y.line(0, 2), 2);
    }

    private static void visits() {
        FirstPut x = Check.told(SMALL);
        int[][] due = {{3, 0, 0, 0}, {4, 1, 1, NONE}};
        for (int i = 0; i < 2; i++) {
            for (int what = 0; what < 4; what++) {
                Check.due("visit(" + i + ", " + what + ")", x.visit(i, what), due[i][what]);
            }
        }
        Check.due("visit(2, 0)", x.visit(2, 0), BAD);
        Check.due("visit(-1, 0)", x.visit(-1, 0), BAD);
        Check.due("visit(0, 4)", x.visit(0, 4), BAD);
        Check.due("visit(0, -1)", x.visit(0, -1), BAD);
    }

    private static void chanceHoldsWorth() {
        FirstPut x = Check.told(SMALL + "thing 0 0 11 0 0 0;");
        Check.due("chance(0)", x.chance(0), 7);
        Check.due("chance(-1)", x.chance(-1), BAD);
        Check.due("chance(11)", x.chance(11), BAD);
        Check.due("chance(10)", x.chance(10), 0);
        Check.due("holds(0)", x.holds(0), 9);
        Check.due("holds(1): it lies in a line", x.holds(1), 0);
        Check.due("holds(4)", x.holds(4), BAD);
        Check.due("holds(-1)", x.holds(-1), BAD);
        Check.due("worth(0)", x.worth(0), 20);
        Check.due("worth(1)", x.worth(1), 0);
        Check.due("worth(4)", x.worth(4), BAD);
        Check.due("worth(-1)", x.worth(-1), BAD);
        x.draw(1, 0);
        Check.due("worth(1) of what he drew", x.worth(1), 8);
    }
}
