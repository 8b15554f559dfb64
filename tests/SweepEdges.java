import java.util.List;

/** Every call with numbers of all sizes, in every scene, beside the Model: the same answers, and the same bank behind them. */
public final class SweepEdges {
    private static final long[] WIDE = {Integer.MIN_VALUE, Integer.MIN_VALUE + 1, -65536, -256, -21, -5, -4, -3, -2, -1, 0, 1, 2, 3,
        4, 5, 6, 7, 8, 9, 10, 11, 12, 13, 14, 17, 18, 20, 21, 22, 39, 40, 41, 98, 99, 100, 127, 128, 255, 256, 479, 480, 481, 32767,
        32768, 65535, 65536, Integer.MAX_VALUE - 3, Integer.MAX_VALUE - 1, Integer.MAX_VALUE};
    private static final long[] NARROW = {Integer.MIN_VALUE, -4, -1, 0, 1, 2, 3, 4, 6, 7, 9, 10, 12, 99, Integer.MAX_VALUE};
    private static final long[] TIGHT = {-1, 0, 1, 2, 3, 4, 6, 7};
    private static final String[] CALLS = {"end", "bank", "fault", "thing", "line", "visit", "chance", "holds", "worth", "put", "draw",
        "slip", "come", "cut", "go", "after", "gains", "vain", "lost", "since", "extra", "aim", "trick", "most", "odds", "likeliest",
        "noted", "forget", "orders", "ring", "with", "join", "keep", "back", "sheet", "lay", "read", "torn", "count", "duel"};

    private final Scene scene;
    private final String name;
    private FirstPut bank;
    private Model model;

    private SweepEdges(Scene scene, String name) {
        this.scene = scene;
        this.name = name;
        begin();
    }

    public static void main(String[] args) {
        for (Scene scene : Scene.values()) {
            for (String name : CALLS) {
                int width = Calls.width(name);
                long[] numbers = width <= 2 ? WIDE : width <= 4 ? NARROW : TIGHT;
                SweepEdges sweep = new SweepEdges(scene, name);
                sweep.each(new long[width], 0, numbers);
                sweep.sameBank("all of it");
            }
        }
        extremesOfFeed();
        Check.finish();
    }

    private void begin() {
        bank = scene.made();
        model = scene.model();
    }

    private void each(long[] args, int from, long[] numbers) {
        if (from == args.length) {
            same(args);
            return;
        }
        for (long v : numbers) {
            args[from] = v;
            each(args, from + 1, numbers);
        }
    }

    /** What is taken may have changed the bank, so that the next call gets a new one; what is refused may not. */
    private void same(long[] args) {
        String call = scene + ": " + Calls.shown(name, args);
        long got = Calls.ask(bank, name, args);
        Check.due(call, got, Calls.ask(model, name, args));
        if (got >= 0 && changes()) {
            sameBank(call);
            begin();
        }
    }

    private boolean changes() {
        return List.of("end", "bank", "chance", "put", "draw", "slip", "come", "cut", "go", "noted", "forget", "keep", "back", "sheet",
            "lay", "read").contains(name);
    }

    private void sameBank(String call) {
        List<Long> is = Scene.dump(bank);
        List<Long> due = Scene.dump(model);
        Check.due(call + " leaves another bank", is.equals(due) ? 0 : 1, 0);
    }

    private static void extremesOfFeed() {
        for (Scene scene : Scene.values()) {
            for (long v : new long[] {Long.MIN_VALUE, Long.MIN_VALUE + 1, -1, 0, 1, Integer.MIN_VALUE, Integer.MAX_VALUE,
                Long.MAX_VALUE - 1, Long.MAX_VALUE}) {
                SweepEdges sweep = new SweepEdges(scene, "feed");
                sweep.same(new long[] {v});
                sweep.sameBank("feed(" + v + ")");
            }
        }
    }
}
