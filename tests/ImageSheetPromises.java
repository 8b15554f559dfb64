/** Promises 36 to 42: images, sheets. */
public final class ImageSheetPromises {
    private static final int NONE = FirstPut.NONE;
    private static final int BAD = FirstPut.BAD;
    private static final int STATE = FirstPut.STATE;
    private static final String SMALL = "thing 0 5 9 1 3 0;thing 1 2 4 8 2 7;line eldest 1;line latest;draw 3 0 0;";

    public static void main(String[] args) {
        images();
        sheets();
        lay();
        lowestBits();
        read();
        readInParts();
        readRefused();
        torn();
        count();
        Check.finish();
    }

    private static void images() {
        FirstPut x = Check.told(SMALL);
        Check.due("back(0) of none", x.back(0), STATE);
        x.noted(1);
        Check.due("keep(0)", x.keep(0), 0);
        x.put(0, 0, 0);
        x.draw(3, 0);
        x.come(4, 1, 1, 1);
        x.noted(0);
        x.chance(3);
        Check.due("keep(1)", x.keep(1), 0);
        x.cut(0);
        x.forget();
        Check.due("back(0)", x.back(0), 1);
        Check.due("where 0 was", x.thing(0, 1), 0);
        Check.due("where 1 was", x.thing(1, 1), 10);
        Check.due("who put 1 in", x.thing(1, 3), 1);
        Check.due("how many lay there", x.line(0, 1), 1);
        Check.due("what was noted", x.count(3), 1);
        Check.due("it was 1", x.noted(1), STATE);
        Check.due("chance is no part of it", x.chance(3), 3);
        Check.due("back(1)", x.back(1), 2);
        Check.due("where 0 was then", x.thing(0, 1), 10);
        Check.due("where 1 was then", x.thing(1, 1), 3);
        Check.due("what was noted then", x.count(3), 2);
        Check.due("the visit", x.visit(1, 3), 1);
        Check.due("back(0) again", x.back(0), 1);
        Check.due("keep(1) again", x.keep(1), 1);
        Check.due("back(1) is as 0 now", x.back(1), 1);
        Check.due("images", x.count(4), 2);
        Check.due("keep(2)", x.keep(2), BAD);
        Check.due("keep(-1)", x.keep(-1), BAD);
        Check.due("back(2)", x.back(2), BAD);
        Check.due("back(-1)", x.back(-1), BAD);
    }

    private static void sheets() {
        FirstPut x = new FirstPut();
        Check.due("sheet(0, 0, 40)", x.sheet(0, 0, 40), 1);
        Check.due("cells", x.count(6), 40);
        Check.due("sheet(0, 2, 0)", x.sheet(0, 2, 0), 1);
        Check.due("no cells", x.count(6), 0);
        Check.due("sheet(0, 0, 41)", x.sheet(0, 0, 41), BAD);
        Check.due("sheet(0, 0, -1)", x.sheet(0, 0, -1), -14);
        Check.due("sheet(4, 0, -1)", x.sheet(4, 0, -1), BAD);
        Check.due("sheet(-1, 0, 1)", x.sheet(-1, 0, 1), BAD);
        Check.due("sheet(0, 3, -1)", x.sheet(0, 3, -1), BAD);
        Check.due("sheet(0, -1, 1)", x.sheet(0, -1, 1), BAD);
        Check.due("what is refused changes nothing", x.count(6), 0);
        x.sheet(0, 0, 3);
        x.sheet(1, 0, 4);
        Check.due("count(6) is of sheet 0", x.count(6), 3);
    }

    private static void lay() {
        FirstPut x = new FirstPut();
        Check.due("lay on nothing", x.lay(3, 0, 0), -11);
        x.sheet(3, 1, 2);
        Check.due("lay(3, 0, 9)", x.lay(3, 0, 9), 1);
        Check.due("lay(3, 1, 9)", x.lay(3, 1, 9), 1);
        Check.due("lay(3, 2, 9)", x.lay(3, 2, 9), -12);
        Check.due("lay(3, -1, 9)", x.lay(3, -1, 9), -12);
        Check.due("lay(4, 0, 9)", x.lay(4, 0, 9), BAD);
        Check.due("lay(-1, 0, 9)", x.lay(-1, 0, 9), BAD);
        x.sheet(2, 0, 0);
        Check.due("lay on a sheet with no cells", x.lay(2, 0, 0), -12);
    }

    private static void layAll(FirstPut x, int k, int... cells) {
        for (int i = 0; i < cells.length; i++) {
            x.lay(k, i, cells[i]);
        }
    }

    /** A day of 3 with higher bits: taken by BYTES with more of them cut than by SHORTS. */
    private static void lowestBits() {
        int[] days = {3 + 256, 3 + 65536, 3 - 65536 * 7};
        int[][] answers = {{1, 1, 1}, {-20, 1, 1}, {-20, -20, -20}};
        for (int lane = 0; lane < 3; lane++) {
            for (int d = 0; d < 3; d++) {
                FirstPut x = Check.told(SMALL);
                x.sheet(0, lane, 4);
                layAll(x, 0, days[d], 0, 0, 0);
                Check.due("lane " + lane + ", day " + days[d], x.read(0, lane, 0, 1), answers[lane][d]);
            }
        }
        FirstPut x = Check.told(SMALL);
        x.sheet(0, 0, 4);
        layAll(x, 0, 3, 0, 0, 252);
        Check.due("a byte of 252 is NONE", x.read(0, 0, 0, 1), 1);
        Check.due("it is a draw", x.visit(1, 3), NONE);
        layAll(x, 0, 200, 0, 0, 0);
        Check.due("a byte of 200 is below 0", x.read(0, 0, 0, 1), -20);
    }

    private static void read() {
        FirstPut x = Check.told(SMALL);
        x.sheet(1, 2, 9);
        layAll(x, 1, 77, 3, 2, 1, 1, 5, 1, 0, NONE);
        Check.due("from cell 1 on", x.read(1, 2, 1, 2), 2);
        int[][] due = {{3, 0, 0, NONE}, {3, 2, 1, 1}, {5, 1, 0, NONE}};
        for (int i = 0; i < 3; i++) {
            for (int what = 0; what < 4; what++) {
                Check.due("visit(" + i + ", " + what + ")", x.visit(i, what), due[i][what]);
            }
        }
        x.sheet(1, 2, 40);
        for (int i = 0; i < 10; i++) {
            for (int c = 0; c < 4; c++) {
                x.lay(1, 4 * i + c, c == 0 ? 50 + i : c == 3 ? NONE : 0);
            }
        }
        x.cut(2);
        Check.due("ten of them", x.read(1, 2, 0, 10), 10);
        Check.due("twelve visits", x.count(2), 12);
        x.cut(3);
        Check.due("nine of them, up to twelve", x.read(1, 2, 4, 9), 9);
        x.cut(4);
        Check.due("a day less than the last one's", x.read(1, 2, 0, 1), -20);
        x.cut(3);
        Check.due("the tenth is one too many", x.read(1, 2, 0, 10), -29);
        Check.due("then none came", x.count(2), 3);
    }

    private static void readInParts() {
        FirstPut x = Check.told(SMALL);
        x.sheet(0, 1, 11);
        layAll(x, 0, 3, 0, 0, NONE, 4, 0, 1, 0, 5, 0, 0);
        Check.due("two are whole", x.read(0, 1, 0, 3), 2);
        Check.due("torn by INDEX", x.torn(), 2);
        Check.due("they came", x.count(2), 3);
        x.cut(1);
        x.lay(0, 6, 9);
        Check.due("refused ahead of the torn one", x.read(0, 1, 0, 3), -21);
        Check.due("none came", x.count(2), 1);
        Check.due("torn() is left", x.torn(), 2);
        Check.due("whole alone", x.read(0, 1, 0, 1), 1);
        Check.due("torn by nothing", x.torn(), 0);
        int[] beyond = {-1, -4, 8, 11, 12, 40, 1000, Integer.MAX_VALUE, Integer.MAX_VALUE - 2, Integer.MIN_VALUE};
        for (int f : beyond) {
            Check.due("from cell " + f, x.read(0, 1, f, 1), 0);
            Check.due("torn() from cell " + f, x.torn(), 2);
        }
    }

    private static void readRefused() {
        FirstPut x = Check.told(SMALL);
        x.sheet(0, 1, 4);
        Check.due("read(4, ..)", x.read(4, 1, 0, 1), BAD);
        Check.due("read(-1, ..)", x.read(-1, 1, 0, 1), BAD);
        Check.due("read(0, 3, ..)", x.read(0, 3, 0, 1), BAD);
        Check.due("read(0, -1, ..)", x.read(0, -1, 0, 1), BAD);
        Check.due("read(.., 11)", x.read(0, 1, 0, 11), BAD);
        Check.due("read(.., -1)", x.read(0, 1, 0, -1), BAD);
        int[][] refused = {{2, 0, 0, NONE}, {100, 0, 0, NONE}, {3, 4, 0, NONE}, {3, 0, 2, NONE}, {3, 0, 0, 2},
            {3, 0, 0, -1}, {-1, 0, 0, 0}};
        for (int[] cells : refused) {
            layAll(x, 0, cells);
            Check.due("cells " + java.util.Arrays.toString(cells), x.read(0, 1, 0, 1), -20);
        }
        Check.due("nothing came", x.count(2), 1);
    }

    private static void torn() {
        FirstPut x = Check.told(SMALL);
        x.sheet(0, 1, 4);
        layAll(x, 0, 3, 0, 0, NONE);
        Check.due("nothing", x.read(1, 0, 0, 1), 0);
        Check.due("NULL", x.torn(), 1);
        Check.due("another lane", x.read(0, 0, -5, 1), 0);
        Check.due("CAST", x.torn(), 3);
        Check.due("a bad n leaves it", x.read(0, 1, 0, 11), BAD);
        Check.due("CAST still", x.torn(), 3);
        Check.due("none of nothing", x.read(1, 0, -5, 0), 0);
        Check.due("no fault", x.torn(), 0);
        x.read(0, 2, 0, 1);
        Check.due("none of another lane", x.read(0, 2, 0, 0), 0);
        Check.due("no fault then", x.torn(), 0);
        x.read(0, 2, 0, 1);
        Check.tell(x, SMALL);
        Check.due("a text leaves it", x.torn(), 3);
    }

    private static void count() {
        FirstPut x = Check.told(SMALL);
        x.noted(0);
        x.keep(1);
        x.sheet(0, 2, 7);
        x.feed(0);
        int[] due = {2, 2, 1, 1, 1, 8, 7};
        for (int what = 0; what < due.length; what++) {
            Check.due("count(" + what + ")", x.count(what), due[what]);
        }
        Check.due("count(7)", x.count(7), BAD);
        Check.due("count(-1)", x.count(-1), BAD);
    }
}
