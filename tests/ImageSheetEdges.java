import java.util.List;

/** Edges of promises 36 to 41: images, sheets. */
public final class ImageSheetEdges {
    private static final int BAD = FirstPut.BAD;
    private static final int STATE = FirstPut.STATE;
    private static final int NONE = FirstPut.NONE;
    private static final String SMALL = "thing 0 5 9 1 3 0;thing 1 2 4 8 2 7;line eldest 1;line latest;draw 3 0 0;";

    public static void main(String[] args) {
        keepByBounds();
        backByBounds();
        imagesOfNothing();
        imagesAreWhole();
        sheetByBounds();
        aNewRow();
        layByBounds();
        lowestBits();
        readByBounds();
        readOfNone();
        readFromEachCell();
        readByLanes();
        readRefusedByCome();
        readUpToTwelve();
        tornOrRefusedFirst();
        torn();
        Check.finish();
    }

    private static void keepByBounds() {
        for (Scene scene : Scene.values()) {
            Edge.bounds(scene, 0, 0, 1, "keep", 0);
            Edge.bounds(scene, 0, 0, 1, "back", 0);
        }
        FirstPut x = new FirstPut();
        Check.due("keep(0) first", x.keep(0), 0);
        Check.due("keep(0) again", x.keep(0), 1);
        Check.due("keep(1) first", x.keep(1), 0);
        Check.due("keep(1) again", x.keep(1), 1);
    }

    private static void backByBounds() {
        Edge.leaves(Scene.NEW, STATE, "back", 0);
        Edge.leaves(Scene.NEW, STATE, "back", 1);
        Edge.leaves(Scene.RICH, STATE, "back", 0);
        Edge.bad(Scene.RICH, "back", 2);
        Edge.leaves(Scene.BRIM, 12, "back", 0);
        FirstPut x = Scene.RICH.made();
        Check.due("the image has a VISIT less", x.back(1), 5);
        Check.due("it is there still", x.back(1), 5);
        x.end(0);
        x.bank();
        Check.due("a text takes the images", x.back(1), STATE);
    }

    private static void imagesOfNothing() {
        FirstPut x = new FirstPut();
        x.keep(1);
        Check.due("back to nothing", x.back(1), 0);
        Check.due("no VISITS", x.count(2), 0);
        Check.due("image 0 is not there", x.back(0), STATE);
    }

    /** An IMAGE is not changed by what comes behind it, nor is CHANCE, a SHEET or THE TAPE by going back. */
    private static void imagesAreWhole() {
        FirstPut x = Scene.BRIM.made();
        FirstPut twin = Scene.BRIM.made();
        x.go(12);
        x.forget();
        x.noted(9);
        x.slip(8, 1, 0);
        x.put(3, 9, 1);
        Check.due("back(0)", x.back(0), 12);
        List<Long> is = Scene.dump(x);
        Check.due("all is as it was", is.equals(Scene.dump(twin)) ? 1 : 0, 1);
        FirstPut y = Check.told(SMALL);
        y.keep(0);
        y.chance(3);
        y.sheet(0, 1, 7);
        y.feed(0);
        y.draw(2, 0);
        y.put(2, 1, 0);
        Check.due("who put it in now", y.thing(1, 3), 2);
        y.back(0);
        Check.due("who had put it in", y.thing(1, 3), 1);
        Check.due("chance stays", y.chance(0), 3);
        Check.due("sheets stay", y.count(6), 7);
        Check.due("the tape stays", y.count(5), 8);
    }

    private static void sheetByBounds() {
        Edge.bounds(Scene.RICH, 0, 0, 3, "sheet", 0, 0, 1);
        Edge.bounds(Scene.RICH, 1, 0, 2, "sheet", 0, 0, 1);
        Edge.above(Scene.RICH, 2, 40, "sheet", 0, 0, 1);
        Edge.above(Scene.NEW, 2, 40, "sheet", 3, 2, 1);
        for (int n : new int[] {-1, -2, -40, -256, Integer.MIN_VALUE, Integer.MIN_VALUE + 1}) {
            Edge.leaves(Scene.RICH, -14, "sheet", 0, 0, n);
            Edge.leaves(Scene.NEW, -14, "sheet", 3, 2, n);
            Edge.bad(Scene.RICH, "sheet", 4, 0, n);
            Edge.bad(Scene.RICH, "sheet", -1, 0, n);
            Edge.bad(Scene.RICH, "sheet", 0, 3, n);
            Edge.bad(Scene.RICH, "sheet", 0, -1, n);
        }
        for (int n = 0; n <= 40; n++) {
            FirstPut x = new FirstPut();
            Check.due("sheet of " + n, x.sheet(0, n % 3, n), 1);
            Check.due("cells", x.count(6), n);
            Check.due("behind the last one", x.lay(0, n, 1), -12);
            Check.due("the last one", x.lay(0, n - 1, 1), n == 0 ? -12 : 1);
        }
    }

    /** CELLS of a new row are 0, whatever the row ahead of it had. */
    private static void aNewRow() {
        FirstPut x = Check.told("thing 0 0 0 0 0 0;line eldest;");
        x.sheet(2, 2, 40);
        for (int i = 0; i < 40; i++) {
            x.lay(2, i, 99);
        }
        x.sheet(2, 2, 2);
        x.sheet(2, 0, 40);
        Check.due("ten VISITS of zeros", x.read(2, 0, 0, 10), 10);
        for (int i = 0; i < 10; i++) {
            for (int what = 0; what < 4; what++) {
                Check.due("VISIT " + i + " of zeros", x.visit(i, what), 0);
            }
        }
        Check.due("no longer of INTS", x.read(2, 2, 0, 1), 0);
        Check.due("another lane", x.torn(), 3);
        Check.due("other sheets are nothing", x.lay(1, 0, 0), -11);
    }

    private static void layByBounds() {
        Edge.bounds(Scene.RICH, 0, 0, 3, "lay", 0, 0, 9);
        for (int i : new int[] {-1, 9, 10, 40, 256, 65536, Integer.MAX_VALUE, Integer.MIN_VALUE}) {
            Edge.leaves(Scene.RICH, -12, "lay", 0, i, 1);
            Edge.leaves(Scene.RICH, -11, "lay", 3, i, 1);
            Edge.bad(Scene.RICH, "lay", 4, i, 1);
        }
        Edge.leaves(Scene.RICH, -11, "lay", 3, 0, 1);
        Edge.leaves(Scene.BRIM, -12, "lay", 0, 40, 1);
        FirstPut x = new FirstPut();
        x.sheet(0, 0, 0);
        Check.due("no cells", x.lay(0, 0, 0), -12);
        for (int v : new int[] {Integer.MIN_VALUE, Integer.MAX_VALUE, -1, 0}) {
            Edge.taken(Scene.BRIM, "lay", 0, 39, v);
            Edge.taken(Scene.BRIM, "lay", 0, 0, v);
        }
    }

    /** DAY 7 with a bit more: it is cut off by the lane, or makes the DAY one that come() refuses. */
    private static void lowestBits() {
        int[] bits = {8, 16, 32};
        for (int lane = 0; lane < 3; lane++) {
            for (int bit = 7; bit < 32; bit++) {
                FirstPut x = Check.told(SMALL);
                x.sheet(1, lane, 4);
                x.lay(1, 0, 7 + (1 << bit));
                boolean cut = bit >= bits[lane];
                Check.due("lane " + lane + ", bit " + bit, x.read(1, lane, 0, 1), cut ? 1 : -20);
                Check.due("its DAY", x.visit(1, 0), cut ? 7 : BAD);
            }
        }
        int[] none = {252, 65532, -4};
        for (int lane = 0; lane < 3; lane++) {
            for (int k = 0; k < 3; k++) {
                FirstPut x = Check.told(SMALL);
                x.sheet(1, lane, 4);
                x.lay(1, 0, 7);
                x.lay(1, 3, none[k]);
                boolean isNone = lane <= k;
                Check.due("lane " + lane + ", " + none[k] + " is NONE", x.read(1, lane, 0, 1), isNone ? 1 : -20);
                Check.due("a DRAW", x.visit(1, 3), isNone ? NONE : BAD);
            }
        }
    }

    private static void readByBounds() {
        Edge.bounds(Scene.RICH, 0, 0, 3, "read", 0, 0, 0, 1);
        Edge.bounds(Scene.RICH, 1, 0, 2, "read", 0, 0, 0, 1);
        Edge.bounds(Scene.RICH, 3, 0, 10, "read", 0, 0, 0, 1);
        Edge.bounds(Scene.NEW, 3, 0, 10, "read", 3, 2, 0, 1);
        for (int f : new int[] {Integer.MIN_VALUE, -1, 0, Integer.MAX_VALUE}) {
            Edge.bad(Scene.RICH, "read", 4, 0, f, 0);
            Edge.bad(Scene.RICH, "read", -1, 0, f, 0);
            Edge.bad(Scene.RICH, "read", 0, 3, f, 0);
            Edge.bad(Scene.RICH, "read", 0, -1, f, 0);
            Edge.bad(Scene.RICH, "read", 0, 0, f, 11);
            Edge.bad(Scene.RICH, "read", 0, 0, f, -1);
        }
    }

    /** Of n 0: 0 and no FAULT, whatever the SHEET, the lane and the CELL are. */
    private static void readOfNone() {
        for (int k = 0; k < 4; k++) {
            for (int lane = 0; lane < 3; lane++) {
                for (int f : new int[] {Integer.MIN_VALUE, -1, 0, 40, Integer.MAX_VALUE}) {
                    FirstPut x = Scene.RICH.made();
                    Check.due("torn() ahead", x.torn(), 3);
                    Check.due(Calls.shown("read", k, lane, f, 0), x.read(k, lane, f, 0), 0);
                    Check.due("no fault", x.torn(), 0);
                    Check.due("none came", x.count(2), 6);
                }
            }
        }
    }

    /** Each number of CELLS, from each CELL on: as many VISITS as are whole, then INDEX. */
    private static void readFromEachCell() {
        for (int cells : new int[] {0, 1, 3, 4, 5, 7, 8, 39, 40}) {
            for (int f = -5; f <= 42; f++) {
                for (int n = 1; n <= 10; n += n == 3 ? 6 : 1) {
                    FirstPut x = Check.told("thing 0 0 0 0 0 0;line eldest;");
                    x.sheet(3, 1, cells);
                    int whole = f < 0 ? 0 : Math.min(n, Math.max(0, (cells - f) / 4));
                    Check.due(cells + " CELLS: " + Calls.shown("read", 3, 1, f, n), x.read(3, 1, f, n), whole);
                    Check.due("INDEX, or no FAULT", x.torn(), whole < n ? 2 : 0);
                    Check.due("how many came", x.count(2), whole);
                }
            }
        }
        int[] far = {Integer.MIN_VALUE, Integer.MIN_VALUE + 3, -4, Integer.MAX_VALUE, Integer.MAX_VALUE - 1, Integer.MAX_VALUE - 2,
            Integer.MAX_VALUE - 3, Integer.MAX_VALUE - 39, 1 << 30, 65536, 256};
        for (int f : far) {
            FirstPut x = Check.told("thing 0 0 0 0 0 0;line eldest;");
            x.sheet(0, 2, 40);
            Check.due("from CELL " + f, x.read(0, 2, f, 10), 0);
            Check.due("INDEX", x.torn(), 2);
            Check.due("none came", x.count(2), 0);
        }
    }

    /** NULL ahead of all, CAST ahead of INDEX, whatever the CELLS are. */
    private static void readByLanes() {
        for (int lane = 0; lane < 3; lane++) {
            for (int taken = 0; taken < 3; taken++) {
                for (int f : new int[] {-1, 0, 4}) {
                    FirstPut x = Check.told("thing 0 0 0 0 0 0;line eldest;");
                    x.sheet(0, lane, 4);
                    int due = f == 0 && lane == taken ? 1 : 0;
                    Check.due("lane " + lane + " as of " + taken + " from " + f, x.read(0, taken, f, 1), due);
                    Check.due("its FAULT", x.torn(), lane != taken ? 3 : due == 1 ? 0 : 2);
                    Check.due("nothing", x.read(1, taken, f, 1), 0);
                    Check.due("NULL", x.torn(), 1);
                }
            }
        }
    }

    /** In whichever way: each number on either side of its bounds, and the thirteenth VISIT. */
    private static void readRefusedByCome() {
        int[][] whole = {{3, 0, 0, 0}, {3, 0, 0, NONE}, {99, 3, 1, 1}};
        int[][] refused = {{2, 0, 0, 0}, {100, 0, 0, 0}, {-1, 0, 0, 0}, {3, -1, 0, 0}, {3, 4, 0, 0}, {3, 0, -1, 0}, {3, 0, 2, 0},
            {3, 0, 0, -1}, {3, 0, 0, -3}, {3, 0, 0, -5}, {3, 0, 0, 2}, {3, NONE, 0, 0}, {3, 0, NONE, 0}, {NONE, 0, 0, 0}};
        for (int[] cells : whole) {
            Check.due(java.util.Arrays.toString(cells), laid(cells).read(0, 2, 0, 1), 1);
        }
        for (int[] cells : refused) {
            FirstPut x = laid(cells);
            Check.due(java.util.Arrays.toString(cells), x.read(0, 2, 0, 1), -20);
            Check.due("none came", x.count(2), 1);
            Check.due("torn() is left", x.torn(), 0);
        }
    }

    private static FirstPut laid(int... cells) {
        FirstPut x = Check.told(SMALL);
        x.sheet(0, 2, 40);
        for (int i = 0; i < cells.length; i++) {
            x.lay(0, i, cells[i]);
        }
        return x;
    }

    private static void readUpToTwelve() {
        for (int there = 0; there <= 12; there++) {
            FirstPut x = Check.told("thing 0 0 0 0 0 0;line eldest;" + "draw 0 0 0;".repeat(there));
            x.sheet(0, 0, 40);
            boolean room = there <= 2;
            Check.due(there + " VISITS and ten", x.read(0, 0, 0, 10), room ? 10 : -20 - (12 - there));
            Check.due("how many there are", x.count(2), room ? there + 10 : there);
            FirstPut y = Check.told("thing 0 0 0 0 0 0;line eldest;" + "draw 0 0 0;".repeat(there));
            y.sheet(0, 0, 40);
            int fits = Math.min(10, 12 - there);
            Check.due(there + " VISITS and as many as fit", y.read(0, 0, 0, fits), fits);
        }
        Edge.leaves(Scene.BRIM, -20, "read", 0, 2, 0, 1);
        Edge.leaves(Scene.BRIM, -20, "read", 3, 2, 0, 10);
    }

    /** What is met first counts: a VISIT that is refused ahead of the torn one, or the torn one alone. */
    private static void tornOrRefusedFirst() {
        int[] days = {3, 4, 5, 6, 7, 8, 9, 10, 11, 12};
        for (int wrong = 0; wrong < 10; wrong++) {
            for (int cells = 0; cells <= 40; cells++) {
                FirstPut x = Check.told("thing 0 0 0 0 0 0;line eldest;");
                x.sheet(2, 2, cells);
                for (int i = 0; 4 * i < cells; i++) {
                    x.lay(2, 4 * i, i == wrong ? 100 : days[i]);
                }
                boolean refused = cells / 4 > wrong;
                Check.due("VISIT " + wrong + " of " + cells + " CELLS", x.read(2, 2, 0, 10), refused ? -20 - wrong : cells / 4);
                Check.due("torn()", x.torn(), refused ? 0 : 2);
                Check.due("how many came", x.count(2), refused ? 0 : cells / 4);
            }
        }
    }

    private static void torn() {
        FirstPut x = Check.told(SMALL);
        Check.due("at first", x.torn(), 0);
        x.sheet(0, 0, -1);
        Check.due("a SIZE is not asked here", x.torn(), 0);
        x.lay(1, 0, 0);
        Check.due("nor what lay() finds", x.torn(), 0);
        x.read(1, 0, 0, 1);
        Check.due("NULL", x.torn(), 1);
        x.sheet(1, 0, 3);
        Check.due("a new sheet leaves it", x.torn(), 1);
        x.read(1, 0, 0, 1);
        Check.due("INDEX", x.torn(), 2);
        x.read(1, 1, 0, 1);
        Check.due("CAST", x.torn(), 3);
        x.sheet(1, 0, 4);
        Check.due("refused by come()", x.read(1, 0, 0, 1), -20);
        Check.due("it is left", x.torn(), 3);
        for (int[] bad : new int[][] {{4, 0, 0, 1}, {0, 3, 0, 1}, {0, 0, 0, 11}, {0, 0, 0, -1}, {-1, -1, -1, -1}}) {
            Check.due("refused", x.read(bad[0], bad[1], bad[2], bad[3]), BAD);
            Check.due("it is left", x.torn(), 3);
        }
        x.keep(0);
        x.back(0);
        x.bank();
        Check.due("images and texts leave it", x.torn(), 3);
        Check.due("of n 0", x.read(0, 0, 0, 0), 0);
        Check.due("no fault", x.torn(), 0);
    }
}
