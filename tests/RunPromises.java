/** Promises 18 to 22: runs. */
public final class RunPromises {
    private static final int NONE = FirstPut.NONE;
    private static final int BAD = FirstPut.BAD;
    private static final int STATE = FirstPut.STATE;
    /** 0 puts 0 in, 1 draws it, 1 puts it in again, 2 draws it; 0 would put it in again, 3 draws from nothing. */
    private static final String PASSED_ON = "thing 0 5 9 1 3 4;thing 1 2 4 8 2 7;thing 0 0 5 0 0 2;line eldest;"
        + "line lightest 2;put 1 0 0 0;draw 2 1 0;put 2 1 0 0;draw 3 2 0;put 4 0 0 0;draw 5 3 0;put 6 1 1 1;";

    public static void main(String[] args) {
        after();
        gains();
        vain();
        lost();
        since();
        Check.finish();
    }

    private static void after() {
        FirstPut x = Check.told(PASSED_ON);
        int[] where = {0, 10, 1, 10, 2, 2, 2, 2};
        for (int n = 0; n < where.length; n++) {
            Check.due("after(" + n + ", 0)", x.after(n, 0), where[n]);
        }
        Check.due("after(7, 1)", x.after(7, 1), 11);
        Check.due("after(8, 0)", x.after(8, 0), BAD);
        Check.due("after(-1, 0)", x.after(-1, 0), BAD);
        Check.due("after(0, 3)", x.after(0, 3), BAD);
        Check.due("after(0, -1)", x.after(0, -1), BAD);
        Check.due("a run changes nothing", x.thing(0, 1), 0);
    }

    private static void gains() {
        FirstPut x = Check.told(PASSED_ON);
        int[] ofOne = {8, 8, 9, 8, 8, 8, 8, 0};
        for (int n = 0; n < ofOne.length; n++) {
            Check.due("gains(" + n + ", 1)", x.gains(n, 1), ofOne[n]);
        }
        Check.due("gains(0, 0)", x.gains(0, 0), 9);
        Check.due("gains(7, 2)", x.gains(7, 2), 3);
        Check.due("gains(8, 0)", x.gains(8, 0), BAD);
        Check.due("gains(-1, 0)", x.gains(-1, 0), BAD);
        Check.due("gains(0, 4)", x.gains(0, 4), BAD);
        Check.due("gains(0, -1)", x.gains(0, -1), BAD);
        Check.due("a run changes nothing", x.worth(1), 8);
    }

    private static void vain() {
        FirstPut x = Check.told(PASSED_ON);
        Check.due("vain()", x.vain(), 16 + 32);
        Check.due("vain() again", x.vain(), 16 + 32);
        Check.due("vain() of no visits", Check.told("line eldest;").vain(), 0);
        FirstPut y = Check.told("thing 0 3 1 1 1 1;".repeat(9) + "line eldest 1 2 3 4 5 6 7 8;put 1 0 0 0;draw 2 3 0;"
            + "put 3 0 0 0;");
        Check.due("no room at first", y.vain(), 1);
    }

    private static void lost() {
        FirstPut x = Check.told(PASSED_ON);
        Check.due("lost(0): what he holds now", x.lost(0), 1);
        Check.due("lost(1): what he puts in", x.lost(1), 1);
        Check.due("lost(2): he has it", x.lost(2), 0);
        Check.due("lost(3)", x.lost(3), 0);
        Check.due("lost(4)", x.lost(4), BAD);
        Check.due("lost(-1)", x.lost(-1), BAD);
        FirstPut y = Check.told("thing 0 3 1 1 1 1;thing 1 3 1 1 1 1;line eldest 0;draw 0 2 0;put 1 0 0 0;put 1 1 0 1;"
            + "draw 2 1 0;");
        Check.due("put in vain, and held by another", y.lost(0), 0);
        Check.due("put in, and drawn by himself", y.lost(1), 0);
        y.cut(3);
        Check.due("it lies in a line", y.lost(1), 0);
    }

    private static void since() {
        FirstPut x = Check.told(PASSED_ON);
        Check.due("since(0, 0)", x.since(0, 0), STATE);
        Check.due("since(1, 0)", x.since(1, 0), 1);
        Check.due("since(2, 0)", x.since(2, 0), 3);
        Check.due("since(3, 0)", x.since(3, 0), NONE);
        Check.due("since(0, 2)", x.since(0, 2), NONE);
        Check.due("since(4, 0)", x.since(4, 0), BAD);
        Check.due("since(-1, 0)", x.since(-1, 0), BAD);
        Check.due("since(0, 3)", x.since(0, 3), BAD);
        Check.due("since(0, -1)", x.since(0, -1), BAD);
    }
}
