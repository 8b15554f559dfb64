import java.util.ArrayList;
import java.util.List;

/** Banks to begin with: each is made anew by the same calls, on FirstPut or on the Model. */
enum Scene {
    /** A new object. */
    NEW,
    /** THINGS that are held, and no LINE. */
    NO_LINES,
    /** LINES in which nothing lies, and no THING. */
    NO_THINGS,
    /** Some of all: VISITS, NOTED, IMAGES, SHEETS of each lane and one that is nothing, bytes on THE TAPE. */
    RICH,
    /** As much of all as there may be. */
    BRIM;

    static final String RICH_TEXT = "thing 0 5 9 1 3 0;thing 1 2 4 8 2 7;thing 2 7 6 6 6 6;thing 3 1 0 3 5 9;"
        + "thing 0 0 1 1 1 1;thing 1 4 20 0 2 2;thing 2 0 3 3 3 3;line eldest 1 2;line latest 5;line lightest 3 6;"
        + "put 1 0 0 0;draw 2 3 0;draw 2 1 1;put 4 0 2 4;draw 9 2 2;chance 4;";
    /** THING 8 is ONE 0's and THING 9 is ONE 3's; all the others lie in LINE 0. */
    static final String BRIM_TEXT = "thing 0 1 1 2 3 4;".repeat(8) + "thing 0 9 20 20 20 20;thing 3 0 0 0 0 0;"
        + "line lightest 7 6 5 4 3 2 1 0;line eldest;line latest;" + "draw 99 3 0;put 99 0 0 8;".repeat(6);

    Object build(Object bank) {
        switch (this) {
            case NO_LINES -> Calls.tell(bank, "thing 0 5 9 1 3 0;thing 1 2 4 8 2 7;chance 3;");
            case NO_THINGS -> Calls.tell(bank, "line eldest;line latest;line lightest;draw 7 2 1;");
            case RICH -> buildRich(bank);
            case BRIM -> buildBrim(bank);
            default -> {
            }
        }
        return bank;
    }

    FirstPut made() {
        return (FirstPut) build(new FirstPut());
    }

    Model model() {
        return (Model) build(new Model());
    }

    private static void layVisit(Object bank, int k, int f, long... cells) {
        for (int i = 0; i < cells.length; i++) {
            Calls.ask(bank, "lay", k, f + i, cells[i]);
        }
    }

    private static void buildRich(Object bank) {
        Calls.tell(bank, RICH_TEXT);
        Calls.ask(bank, "noted", 2);
        Calls.ask(bank, "keep", 1);
        Calls.ask(bank, "draw", 3, 1);
        Calls.ask(bank, "noted", 1);
        Calls.ask(bank, "come", 9, 1, 1, -4);
        Calls.ask(bank, "sheet", 0, 0, 9);
        layVisit(bank, 0, 0, 9, 0, 0, -4, 20, 3, 2, 6);
        Calls.ask(bank, "sheet", 1, 1, 4);
        layVisit(bank, 1, 0, 30, 1, 1, 5);
        Calls.ask(bank, "sheet", 2, 2, 40);
        layVisit(bank, 2, 36, 99, 2, 0, 2);
        Calls.ask(bank, "read", 0, 1, 0, 1);
        Calls.tell(bank, "line x");
        Calls.type(bank, "chance 7;");
    }

    private static void buildBrim(Object bank) {
        Calls.tell(bank, BRIM_TEXT);
        for (int t = 0; t < 8; t++) {
            Calls.ask(bank, "noted", t);
        }
        Calls.ask(bank, "keep", 0);
        Calls.ask(bank, "keep", 1);
        for (int k = 0; k < 4; k++) {
            Calls.ask(bank, "sheet", k, 2 - k % 3, 40);
            layVisit(bank, k, 0, 99, 3, 2, -4);
        }
        Calls.type(bank, "line eldest; ".repeat(37).substring(0, 480));
    }

    /** All that can be seen from outside, by calls that may change it: the bank is of no use behind this. */
    static List<Long> dump(Object bank) {
        List<Long> seen = new ArrayList<>();
        seen.add(Calls.ask(bank, "fault"));
        seen.add(Calls.ask(bank, "torn"));
        for (int what = 0; what < 7; what++) {
            seen.add(Calls.ask(bank, "count", what));
        }
        dumpGoods(bank, seen);
        dumpPlaces(bank, seen);
        dumpNoted(bank, seen);
        seen.add(Calls.ask(bank, "chance", 10));
        for (int k = 0; k < 2; k++) {
            seen.add(Calls.ask(bank, "back", k));
            dumpPlaces(bank, seen);
            seen.add(Calls.ask(bank, "count", 3));
        }
        dumpSheets(bank, seen);
        seen.add(Calls.ask(bank, "bank"));
        seen.add(Calls.ask(bank, "fault"));
        seen.add(Calls.ask(bank, "chance", 10));
        return seen;
    }

    private static void dumpGoods(Object bank, List<Long> seen) {
        int[] asked = {0, 3, 10, 11, 12, 13};
        long things = Calls.ask(bank, "count", 0);
        for (int t = 0; t < things; t++) {
            for (int what : asked) {
                seen.add(Calls.ask(bank, "thing", t, what));
            }
        }
        for (int l = 0; l < Calls.ask(bank, "count", 1); l++) {
            seen.add(Calls.ask(bank, "line", l, 0));
        }
    }

    private static void dumpPlaces(Object bank, List<Long> seen) {
        for (int p = 0; p < 4; p++) {
            seen.add(Calls.ask(bank, "holds", p));
        }
        for (int l = 0; l < Calls.ask(bank, "count", 1); l++) {
            long lie = Calls.ask(bank, "line", l, 1);
            seen.add(lie);
            for (int i = 0; i < lie; i++) {
                seen.add(Calls.ask(bank, "line", l, 10 + i));
            }
        }
        dumpVisits(bank, seen);
    }

    private static void dumpVisits(Object bank, List<Long> seen) {
        long visits = Calls.ask(bank, "count", 2);
        seen.add(visits);
        for (int i = 0; i < visits; i++) {
            for (int what = 0; what < 4; what++) {
                seen.add(Calls.ask(bank, "visit", i, what));
            }
        }
    }

    private static void dumpNoted(Object bank, List<Long> seen) {
        long lines = Calls.ask(bank, "count", 1);
        for (int l = 0; l < lines; l++) {
            seen.add(Calls.ask(bank, "orders", l, 0));
            seen.add(Calls.ask(bank, "orders", l, 10));
        }
        for (int t = 0; t < 10; t++) {
            seen.add(Calls.ask(bank, "noted", t));
        }
    }

    /** Each SHEET's lane is found by its FAULTS, and what it has by what is read of it. */
    private static void dumpSheets(Object bank, List<Long> seen) {
        for (int k = 0; k < 4; k++) {
            for (int lane = 0; lane < 3; lane++) {
                Calls.ask(bank, "cut", 0);
                seen.add(Calls.ask(bank, "read", k, lane, 0, 2));
                seen.add(Calls.ask(bank, "torn"));
                dumpVisits(bank, seen);
            }
            Calls.ask(bank, "cut", 0);
            seen.add(Calls.ask(bank, "lay", k, 8, 0));
            seen.add(Calls.ask(bank, "lay", k, 39, 0));
        }
    }
}
