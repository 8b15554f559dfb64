/** Promises 23 to 28: one more. */
public final class OneMorePromises {
    private static final int NONE = FirstPut.NONE;
    private static final int BAD = FirstPut.BAD;
    private static final int STATE = FirstPut.STATE;
    /** Line 0 gives 1, then 2, 2, then 0; thing 3 never lies anywhere. */
    private static final String FOUR = "thing 0 5 9 1 3 0;thing 1 2 4 8 2 7;thing 2 7 6 6 6 6;thing 0 0 0 0 0 0;"
        + "line eldest 1 2;line latest;draw 1 3 0;put 2 0 0 0;draw 3 3 0;";

    public static void main(String[] args) {
        extra();
        aim();
        trick();
        trickWithoutRoom();
        most();
        odds();
        likeliest();
        Check.finish();
    }

    private static void extra() {
        FirstPut x = Check.told(FOUR);
        Check.due("extra(0, 0, 0)", x.extra(0, 0, 0), 9);
        Check.due("extra(0, 0, 1): behind all", x.extra(0, 0, 1), 3);
        Check.due("extra(2, 0, 0)", x.extra(2, 0, 0), 6);
        Check.due("extra(2, 0, 1): of several the first", x.extra(2, 0, 1), 1);
        Check.due("extra(1, 0, 1): ahead of all", x.extra(1, 0, 1), 0);
        Check.due("extra(0, 1, 0)", x.extra(0, 1, 0), NONE);
        Check.due("extra(0, 1, 1)", x.extra(0, 1, 1), NONE);
        Check.due("extra(4, 0, 0)", x.extra(4, 0, 0), BAD);
        Check.due("extra(-1, 0, 0)", x.extra(-1, 0, 0), BAD);
        Check.due("extra(0, 2, 0)", x.extra(0, 2, 0), BAD);
        Check.due("extra(0, -1, 0)", x.extra(0, -1, 0), BAD);
        Check.due("extra(0, 0, 2)", x.extra(0, 0, 2), BAD);
        Check.due("extra(0, 0, -1)", x.extra(0, 0, -1), BAD);
        FirstPut y = Check.told("thing 0 0 0 0 0 0;line latest 0;");
        Check.due("a value of 0 is no vain", y.extra(0, 0, 0), 0);
        Check.due("its place", y.extra(0, 0, 1), 0);
    }

    private static void aim() {
        FirstPut x = Check.told(FOUR);
        int[] place = {3, 0, 1, NONE};
        int[] line = {0, 0, 0, NONE};
        for (int t = 0; t < 4; t++) {
            Check.due("aim(" + t + ", 0)", x.aim(t, 0), place[t]);
            Check.due("aim(" + t + ", 1)", x.aim(t, 1), line[t]);
        }
        Check.due("aim(4, 0)", x.aim(4, 0), BAD);
        Check.due("aim(-1, 0)", x.aim(-1, 0), BAD);
        Check.due("aim(0, 2)", x.aim(0, 2), BAD);
        Check.due("aim(0, -1)", x.aim(0, -1), BAD);
        x.come(4, 3, 0, NONE);
        x.come(5, 3, 1, 0);
        Check.due("aim(0, 1) is the first place's", x.aim(0, 1), 0);
        x.put(0, 3, 1);
        Check.due("aim(3, 1)", x.aim(3, 1), 1);
    }

    /** Rubbish put in ahead of 2 is drawn by 3 in its place. */
    private static void trick() {
        FirstPut x = Check.told("thing 0 0 0 0 0 0;thing 0 0 0 0 0 0;thing 1 0 9 0 0 0;thing 3 0 0 0 0 0;"
            + "line eldest 1;line eldest;draw 1 3 0;put 2 1 0 2;draw 3 3 0;");
        Check.due("trick i", x.trick(0, 0, 2, 0), 0);
        Check.due("trick j", x.trick(0, 0, 2, 1), 3);
        Check.due("trick line", x.trick(0, 0, 2, 2), 0);
        Check.due("at the same place, i", x.trick(0, 0, 1, 0), 0);
        Check.due("at the same place, j", x.trick(0, 0, 1, 1), 0);
        Check.due("not his", x.trick(1, 0, 2, 0), STATE);
        Check.due("it lies in a line", x.trick(0, 1, 2, 0), STATE);
        Check.due("never there", x.trick(0, 0, 3, 0), NONE);
        Check.due("for itself", x.trick(0, 0, 0, 0), BAD);
        Check.due("trick(4, ..)", x.trick(4, 0, 2, 0), BAD);
        Check.due("trick(0, 4, ..)", x.trick(0, 4, 2, 0), BAD);
        Check.due("trick(0, 0, 4, ..)", x.trick(0, 0, 4, 0), BAD);
        Check.due("trick(.., 3)", x.trick(0, 0, 2, 3), BAD);
        Check.due("trick(.., -1)", x.trick(0, 0, 2, -1), BAD);
        Check.due("what is tried changes nothing", x.holds(0), 1);
        FirstPut y = Check.told("thing 0 0 0 0 0 0;thing 1 0 0 0 0 0;line eldest;line eldest;put 1 0 0 0;put 2 1 0 1;"
            + "draw 3 2 0;");
        Check.due("his visit with the rubbish is in vain then", y.trick(0, 0, 1, 1), 3);
        y.cut(2);
        Check.due("the rubbish stays ahead of it, or it is not held", y.trick(0, 0, 1, 0), NONE);
    }

    private static void trickWithoutRoom() {
        FirstPut x = Check.told("thing 0 3 1 1 1 1;".repeat(9) + "line eldest 0 1 2 3 4 5 6 7;draw 1 3 0;");
        Check.due("no room at first, i", x.trick(0, 8, 1, 0), 1);
        Check.due("no room at first, j", x.trick(0, 8, 1, 1), 1);
        Check.due("no room while it lies first", x.trick(0, 8, 0, 0), NONE);
        FirstPut y = Check.told("thing 0 3 1 1 1 1;".repeat(3) + "line latest 0;line eldest 1;");
        Check.due("the rubbish is the latest", y.trick(0, 2, 0, 2), NONE);
        Check.due("the other line", y.trick(0, 2, 1, 2), 1);
    }

    private static void most() {
        FirstPut x = Check.told("thing 3 0 5 0 0 0;thing 3 0 9 0 0 0;thing 3 0 5 0 0 0;line eldest 0 1;line eldest 2;"
            + "draw 1 0 1;draw 2 1 0;draw 3 0 1;");
        Check.due("most(0, 0)", x.most(0, 0), 14);
        Check.due("most(0, 10)", x.most(0, 10), 1);
        Check.due("most(0, 11)", x.most(0, 11), NONE);
        Check.due("most(0, 12)", x.most(0, 12), 0);
        Check.due("most(0, 13)", x.most(0, 13), BAD);
        Check.due("most(0, 1)", x.most(0, 1), BAD);
        Check.due("most(0, 9)", x.most(0, 9), BAD);
        Check.due("most(0, -1)", x.most(0, -1), BAD);
        Check.due("most(4, 0)", x.most(4, 0), BAD);
        Check.due("most(-1, 0)", x.most(-1, 0), BAD);
        Check.due("of several the first", x.most(1, 11), 0);
        Check.due("no draws of his", x.most(2, 0), 0);
        Check.due("a run changes nothing", x.line(0, 1), 2);
        FirstPut y = new FirstPut();
        Check.due("no lines", y.most(0, 0), STATE);
        Check.due("no lines, no such visit", y.most(0, 10), BAD);
        FirstPut z = Check.told("thing 0 0 5 0 0 0;line eldest 0;" + "draw 1 0 0;".repeat(7) + "draw 1 1 0;");
        Check.due("seven draws", z.most(0, 0), 5);
        z.come(1, 0, 0, NONE);
        Check.due("eight draws", z.most(0, 0), STATE);
        Check.due("eight draws, what is bad", z.most(0, 5), BAD);
        Check.due("another's", z.most(1, 0), 0);
    }

    private static void odds() {
        FirstPut x = Check.told("thing 0 0 0 0 0 0;thing 0 0 0 0 0 0;thing 0 0 0 0 0 0;line eldest 0 1;line latest;"
            + "draw 1 0 0;draw 2 0 0;chance 3;");
        long[][] due = {{49, 100}, {21, 50}, {0, 1}};
        for (int t = 0; t < 3; t++) {
            Check.due("odds(0, " + t + ", 0)", x.odds(0, t, 0), due[t][0]);
            Check.due("odds(0, " + t + ", 1)", x.odds(0, t, 1), due[t][1]);
        }
        Check.due("odds of nothing", x.odds(1, 0, 1), 1);
        Check.due("odds(2, 0, 0)", x.odds(2, 0, 0), BAD);
        Check.due("odds(-1, 0, 0)", x.odds(-1, 0, 0), BAD);
        Check.due("odds(0, 3, 0)", x.odds(0, 3, 0), BAD);
        Check.due("odds(0, -1, 0)", x.odds(0, -1, 0), BAD);
        Check.due("odds(0, 0, 2)", x.odds(0, 0, 2), BAD);
        Check.due("odds(0, 0, -1)", x.odds(0, 0, -1), BAD);
        x.chance(0);
        Check.due("none comes", x.odds(0, 0, 0), 1);
        Check.due("none comes, below", x.odds(0, 0, 1), 1);
        x.chance(10);
        Check.due("all come", x.odds(0, 1, 0), 0);
        FirstPut y = Check.told("thing 0 0 0 0 0 0;line eldest 0;chance 1;" + "draw 1 0 0;".repeat(10));
        Check.due("ten visits", y.odds(0, 0, 0), 3486784401L);
        Check.due("ten visits, below", y.odds(0, 0, 1), 10000000000L);
        y.come(1, 0, 0, 0);
        Check.due("eleven visits", y.odds(0, 0, 0), STATE);
        Check.due("eleven visits, no such thing", y.odds(0, 1, 0), BAD);
    }

    private static void likeliest() {
        FirstPut x = Check.told("thing 0 0 0 0 0 0;thing 0 0 0 0 0 0;line eldest 1 0;line latest;chance 5;draw 1 0 0;");
        Check.due("of several the least", x.likeliest(0), 0);
        x.chance(4);
        Check.due("it stays first", x.likeliest(0), 1);
        x.chance(6);
        Check.due("it is drawn", x.likeliest(0), 0);
        Check.due("in vain always", x.likeliest(1), NONE);
        Check.due("likeliest(2)", x.likeliest(2), BAD);
        Check.due("likeliest(-1)", x.likeliest(-1), BAD);
        FirstPut y = Check.told("thing 0 0 0 0 0 0;line eldest 0;chance 9;" + "draw 1 0 0;".repeat(10));
        Check.due("in vain mostly", y.likeliest(0), 0);
        y.chance(10);
        Check.due("in vain now", y.likeliest(0), NONE);
        y.come(1, 0, 0, 0);
        Check.due("eleven visits", y.likeliest(0), STATE);
        Check.due("eleven visits, no such line", y.likeliest(1), BAD);
    }
}
