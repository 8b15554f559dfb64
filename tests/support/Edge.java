import java.util.Arrays;
import java.util.List;

/** What the tests of edges share: a refused call is set beside a bank on which it was not made. */
final class Edge {
    static final long BAD = FirstPut.BAD;
    static final long STATE = FirstPut.STATE;
    static final long FULL = FirstPut.FULL;
    static final long NONE = FirstPut.NONE;

    private Edge() {
    }

    /** The call answers this and leaves all as it was. */
    static void leaves(Scene scene, long due, String name, long... args) {
        FirstPut bank = scene.made();
        String call = scene + ": " + Calls.shown(name, args);
        Check.due(call, Calls.ask(bank, name, args), due);
        List<Long> is = Scene.dump(bank);
        List<Long> was = Scene.dump(scene.made());
        Check.due(call + " leaves all as it was: " + is + " for " + was, is.equals(was) ? 1 : 0, 1);
    }

    static void bad(Scene scene, String name, long... args) {
        leaves(scene, BAD, name, args);
    }

    /** The call is not refused as BAD, whatever it answers. */
    static void taken(Scene scene, String name, long... args) {
        long got = Calls.ask(scene.made(), name, args);
        Check.due(scene + ": " + Calls.shown(name, args) + " is BAD", got == BAD ? 1 : 0, 0);
    }

    /**
     * The number at this place of the call: the least and the greatest are taken, the next ones beyond them are BAD,
     * as are the smallest and the greatest int, and those that would be within the bounds if cut to a byte or a short.
     */
    static void bounds(Scene scene, int at, int least, int greatest, String name, long... args) {
        for (long v : new long[] {least, greatest}) {
            taken(scene, name, with(args, at, v));
        }
        above(scene, at, greatest, name, args);
        long[] below = {least - 1L, least - 256L, least - 65536L, Integer.MIN_VALUE, Integer.MIN_VALUE + least};
        for (long v : below) {
            if (v >= Integer.MIN_VALUE) {
                bad(scene, name, with(args, at, v));
            }
        }
    }

    /** As bounds(), for a number that is refused in another way below the least. */
    static void above(Scene scene, int at, int greatest, String name, long... args) {
        long[] above = {greatest + 1L, greatest + 256L, greatest + 65536L, Integer.MAX_VALUE, Integer.MAX_VALUE - greatest};
        for (long v : above) {
            bad(scene, name, with(args, at, v));
        }
    }

    static long[] with(long[] args, int at, long v) {
        long[] changed = Arrays.copyOf(args, args.length);
        changed[at] = v;
        return changed;
    }

    /** Of all numbers from far below to far above, just these are taken at this place of the call; the others are BAD. */
    static void only(Scene scene, int at, int[] taken, String name, long... args) {
        for (int v = -25; v <= 130; v++) {
            if (Arrays.binarySearch(taken, v) >= 0) {
                taken(scene, name, with(args, at, v));
            } else {
                bad(scene, name, with(args, at, v));
            }
        }
        bad(scene, name, with(args, at, Integer.MIN_VALUE));
        bad(scene, name, with(args, at, Integer.MAX_VALUE));
        bad(scene, name, with(args, at, 256));
        bad(scene, name, with(args, at, 65536));
    }
}
