/** Edges of promises 1 to 5: a new object, THE TAPE, the text's TOKENS and bounds, its FAULTS. */
public final class TextEdges {
    private static final long BAD = Edge.BAD;
    private static final long STATE = Edge.STATE;
    private static final long FULL = Edge.FULL;
    private static final long NONE = Edge.NONE;
    private static final String THING = "thing 0 0 0 0 0 0;";
    private static final String TEN = THING.repeat(10);

    public static void main(String[] args) {
        newObject();
        feedUpTo480();
        feedOfExtremes();
        end();
        bankOfLittleAndOfAll();
        faultPlaces();
        eachByte();
        blanks();
        namesNearby();
        figures();
        numbersOutOfBounds();
        daysNoLess();
        tokensThatCanNotStand();
        theEnd();
        twice();
        tooMany();
        behindAll();
        theFirstMet();
        aFaultLeavesWhatWasTold();
        faultIsOfTheLatest();
        oneTextBehindAnother();
        Check.finish();
    }

    private static void fresh(long due, String name, long... args) {
        Check.due("new " + Calls.shown(name, args), Calls.ask(new FirstPut(), name, args), due);
    }

    /** Nothing there: every call on a new object. */
    private static void newObject() {
        fresh(8, "feed", 0);
        fresh(0, "end", 0);
        fresh(BAD, "end", 1);
        fresh(0, "bank");
        fresh(0, "fault");
        fresh(BAD, "thing", 0, 0);
        fresh(BAD, "line", 0, 0);
        fresh(BAD, "visit", 0, 0);
        fresh(10, "chance", 0);
        fresh(BAD, "slip", 0, 0, 0);
        fresh(BAD, "come", 0, 0, 0, NONE);
        fresh(0, "cut", 0);
        fresh(BAD, "cut", 1);
        fresh(0, "go", 0);
        fresh(BAD, "go", 1);
        fresh(BAD, "after", 0, 0);
        fresh(0, "vain");
        fresh(BAD, "aim", 0, 0);
        fresh(BAD, "odds", 0, 0, 0);
        fresh(BAD, "likeliest", 0);
        fresh(BAD, "duel", 0, 0, 1, 0, 1, 0);
        fresh(BAD, "noted", 0);
        fresh(0, "forget");
        fresh(BAD, "orders", 0, 0);
        fresh(0, "torn");
        for (int p = 0; p < 4; p++) {
            newObjectAskedOfOne(p);
        }
        for (int k = 0; k < 4; k++) {
            fresh(-11, "lay", k, 0, 0);
            fresh(0, "read", k, 0, 0, 1);
        }
        for (int k = 0; k < 2; k++) {
            fresh(0, "keep", k);
            fresh(STATE, "back", k);
        }
        for (int what = 0; what < 6; what++) {
            fresh(0, "count", what);
        }
        fresh(NONE, "count", 6);
    }

    private static void newObjectAskedOfOne(int p) {
        fresh(0, "holds", p);
        fresh(0, "worth", p);
        fresh(BAD, "put", p, 0, 0);
        fresh(BAD, "draw", p, 0);
        fresh(0, "gains", 0, p);
        fresh(BAD, "gains", 1, p);
        fresh(0, "lost", p);
        fresh(BAD, "since", p, 0);
        fresh(BAD, "extra", p, 0, 0);
        fresh(BAD, "trick", p, 0, 1, 0);
        fresh(STATE, "most", p, 0);
        fresh(BAD, "most", p, 10);
        fresh(NONE, "ring", p);
        fresh(NONE, "with", p);
        fresh(NONE, "join", p);
    }

    private static void feedUpTo480() {
        for (int keep = 465; keep <= 480; keep++) {
            FirstPut x = new FirstPut();
            Check.type(x, " ".repeat(480));
            x.end(keep);
            Check.due("feed behind " + keep + " bytes", x.feed(0), keep <= 472 ? keep + 8 : FULL);
            Check.due("bytes then", x.count(5), keep <= 472 ? keep + 8 : keep);
        }
        for (long v : new long[] {Long.MIN_VALUE, -1, 0, 1, Long.MAX_VALUE}) {
            Edge.leaves(Scene.BRIM, FULL, "feed", v);
        }
    }

    private static void feedOfExtremes() {
        long[] noTokenFirst = {Long.MIN_VALUE, Long.MAX_VALUE, -1, 0, 1, 0x7f20202020202020L, 0x8020202020202020L};
        for (long v : noTokenFirst) {
            FirstPut x = new FirstPut();
            Check.due("feed(" + v + ")", x.feed(v), 8);
            Check.due("bank() of " + v, x.bank(), -10);
            Check.due("fault() of " + v, x.fault(), 1);
        }
        for (int place = 0; place < 8; place++) {
            FirstPut x = new FirstPut();
            x.feed(0x2020202020202020L ^ 0x20L << 56 - 8 * place);
            Check.due("a byte 0 at place " + place, x.bank(), -10 - place);
        }
    }

    private static void end() {
        Edge.bounds(Scene.RICH, 0, 0, 9, "end", 0);
        Edge.bounds(Scene.BRIM, 0, 0, 480, "end", 0);
        Edge.bounds(Scene.NEW, 0, 0, 0, "end", 0);
        Edge.leaves(Scene.RICH, 9, "end", 9);
        Edge.leaves(Scene.NEW, 0, "end", 0);
        FirstPut x = new FirstPut();
        Check.type(x, "chance 5;!!!!!!!");
        Check.due("end(9) of 16", x.end(9), 16);
        Check.due("end(9) of 9", x.end(9), 9);
        Check.due("the first 9 bytes are kept", x.bank(), 1);
        Check.due("what they told", x.chance(0), 5);
        Check.type(x, "!!!!!!!!");
        Check.due("end(0) of 8", x.end(0), 8);
        Check.due("nothing is kept", x.bank(), 0);
    }

    private static void bankOfLittleAndOfAll() {
        Check.taken("", 0);
        Check.taken(" ", 0);
        Check.taken(" ".repeat(480), 0);
        Check.taken("chance 0;", 1);
        Check.taken(TEN + "line eldest;line latest;line lightest;chance 1;" + "draw 0 0 2;".repeat(12), 26);
        FirstPut x = Scene.RICH.made();
        x.end(0);
        Check.due("bank() of an empty tape is taken", x.bank(), 0);
        for (int what = 0; what < 6; what++) {
            Check.due("count(" + what + ") behind it", x.count(what), 0);
        }
        Check.due("chance is as at first", x.chance(0), 10);
        Check.due("sheets stay", x.count(6), 9);
        Check.due("a sheet of ints stays", x.lay(2, 39, 0), 1);
        Check.due("no image 0", x.back(0), STATE);
        Check.due("no image 1", x.back(1), STATE);
        Check.due("torn() stays", x.torn(), 3);
    }

    /** -10 less the place, from the first byte to behind the last one; THE TAPE is empty then. */
    private static void faultPlaces() {
        for (int place : new int[] {0, 1, 7, 8, 9, 255, 256, 472, 478, 479}) {
            FirstPut x = new FirstPut();
            Check.due("a fault at " + place, Check.tell(x, " ".repeat(place) + "!"), -10 - place);
            Check.due("the tape is empty", x.count(5), 0);
            Check.due("not a byte is kept", x.end(1), BAD);
        }
        Check.refused(" ".repeat(479) + "x", 2, 479);
        Check.refused(" ".repeat(474) + "chance", 2, 480);
        Check.refused(" ".repeat(469) + "draw 0 0 0;", 6, 480);
    }

    /** Just a .. z, 0 .. 9, the sign ; and blanks make TOKENS. */
    private static void eachByte() {
        for (int b = 0; b < 256; b++) {
            String sign = String.valueOf((char) b);
            boolean token = (b >= 'a' && b <= 'z') || (b >= '0' && b <= '9') || b == ';';
            if (b == ' ') {
                Check.taken(sign, 0);
                Check.taken("chance" + sign + "10;", 1);
                continue;
            }
            Check.refused(sign, token ? 2 : 1, 0);
            Check.refused("chance 10;" + sign, token ? 2 : 1, 10);
            if (!token) {
                Check.refused("chance" + sign + "10;", 1, 6);
                Check.refused("chance 1" + sign + ";", 1, 8);
                Check.refused("chance 10; " + sign + " chance", 1, 11);
            }
        }
    }

    private static void blanks() {
        Check.taken("thing0 0 0 0 0 0;line eldest0;put0 0 0 0;draw0 0 0;chance9;", 5);
        Check.taken("  thing  0  0  0  0  0  0  ;  line  eldest  0  ;  put  0  0  0  0  ;  draw  0  0  0  ;  ", 4);
        Check.taken("line eldest;line latest;line lightest;", 3);
        Check.taken("chance" + " ".repeat(472) + "1;", 1);
        Check.refused("lineeldest;", 2, 0);
        Check.refused("line eldestlatest;", 2, 5);
        Check.refused("draw 000;", 1, 5);
        Check.refused("draw 00 0;", 2, 9);
        Check.refused("draw 0 00;", 2, 9);
        Check.taken("line eldest;draw 0 0 00;", 2);
        Check.refused("thing 0 0 0 0 00;", 2, 16);
    }

    private static void namesNearby() {
        for (String name : new String[] {"thing", "line", "put", "draw", "chance"}) {
            String rest = name.equals("line") ? " eldest;" : name.equals("chance") ? " 1;" : " 0 0 0 0;";
            Check.refused(name.substring(1) + rest, 2, 0);
            Check.refused(name.substring(0, name.length() - 1) + rest, 2, 0);
            Check.refused(name + "s" + rest, 2, 0);
            Check.refused("a" + name + rest, 2, 0);
            Check.refused(name.substring(0, name.length() - 1) + "z" + rest, 2, 0);
        }
        for (String kind : new String[] {"eldest", "latest", "lightest"}) {
            Check.taken("line " + kind + ";", 1);
            Check.refused("line " + kind.substring(1) + ";", 2, 5);
            Check.refused("line " + kind.substring(0, kind.length() - 1) + ";", 2, 5);
            Check.refused("line " + kind + "t;", 2, 5);
            Check.refused(kind + ";", 2, 0);
        }
        Check.refused("line line;", 2, 5);
        Check.refused("z".repeat(480), 2, 0);
    }

    /** NUMBERS have 1 or 2 figures: the third one is too many wherever the NUMBER stands, even if it could not stand there. */
    private static void figures() {
        Check.taken("chance 0;", 1);
        Check.taken("chance 00;", 1);
        Check.taken("chance 01;", 1);
        Check.refused("chance 000;", 1, 7);
        Check.refused("chance 001;", 1, 7);
        Check.refused("chance 010;", 1, 7);
        Check.refused("chance " + "9".repeat(473), 1, 7);
        Check.refused("chance 4294967296;", 1, 7);
        Check.refused("chance 18446744073709551617;", 1, 7);
        Check.refused("000;", 1, 0);
        Check.refused("00;", 2, 0);
        Check.refused("line 100;", 1, 5);
        Check.refused("line 10;", 2, 5);
        Check.refused("chance 1 100;", 1, 9);
        Check.refused("line eldest 100;", 1, 12);
        Check.refused("draw 100 0 0;", 1, 5);
        Check.taken("line eldest;draw 99 0 0;draw 99 0 0;", 3);
        Check.taken("line eldest;draw 09 0 0;draw 9 0 0;draw 10 0 0;", 4);
        FirstPut x = Check.told("thing 03 09 20 02 00 10;");
        Check.due("03", x.thing(0, 1), 3);
        Check.due("09", x.thing(0, 0), 9);
        Check.due("20", x.thing(0, 10), 20);
        Check.due("02", x.thing(0, 11), 2);
        Check.due("00", x.thing(0, 12), 0);
        Check.due("10", x.thing(0, 13), 10);
    }

    /** The NUMBER that stands for # is taken up to its greatest; from the next one on it is a FAULT at its first byte. */
    private static void number(String text, int greatest) {
        int place = text.indexOf('#');
        for (int n = 0; n < 100; n++) {
            String told = text.replace("#", "" + n);
            if (n > greatest) {
                Check.refused(told, 3, place);
            } else {
                FirstPut x = new FirstPut();
                Check.due("bank() of " + told + " is a fault", Check.tell(x, told) < 0 ? 1 : 0, 0);
            }
        }
        Check.refused(text.replace("#", "100"), 1, place);
    }

    private static void numbersOutOfBounds() {
        number("thing # 0 0 0 0 0;", 3);
        number("thing 0 # 0 0 0 0;", 9);
        number("thing 0 0 # 0 0 0;", 20);
        number("thing 0 0 0 # 0 0;", 20);
        number("thing 0 0 0 0 # 0;", 20);
        number("thing 0 0 0 0 0 #;", 20);
        String three = TEN + "line eldest;line latest;line lightest;";
        number(TEN + "line latest #;", 9);
        number(three + "put # 0 0 0;", 99);
        number(three + "put 0 # 0 0;", 3);
        number(three + "put 0 0 # 0;", 2);
        number(three + "put 0 0 0 #;", 9);
        number(three + "draw # 0 0;", 99);
        number(three + "draw 0 # 0;", 3);
        number(three + "draw 0 0 #;", 2);
        number("chance #;", 10);
    }

    private static void daysNoLess() {
        String start = THING + "line eldest;";
        int length = start.length();
        Check.taken(start + "put 0 0 0 0;draw 0 0 0;", 4);
        Check.taken(start + "put 50 0 0 0;put 50 0 0 0;", 4);
        Check.taken(start + "put 50 0 0 0;put 51 0 0 0;", 4);
        Check.refused(start + "put 50 0 0 0;put 49 0 0 0;", 3, length + 17);
        Check.refused(start + "put 50 0 0 0;draw 49 0 0;", 3, length + 18);
        Check.refused(start + "draw 50 0 0;put 49 0 0 0;", 3, length + 16);
        Check.refused(start + "draw 1 0 0;draw 0 0 0;", 3, length + 16);
        Check.taken("draw 5 0 0;line eldest;chance 0;draw 5 0 0;", 4);
        Check.refused("draw 5 0 0;line eldest;chance 0;draw 4 0 0;", 3, 37);
        Check.refused(start + "draw 1 0 0;draw 3 0 0;draw 2 0 0;", 3, length + 27);
    }

    /** Each TOKEN of a line behind its NAME in turn is another one that can not stand there. */
    private static void tokensThatCanNotStand() {
        String[] lines = {"thing 0 0 0 0 0 0 ;", "put 0 0 0 0 ;", "draw 0 0 0 ;", "chance 0 ;"};
        for (String line : lines) {
            String[] tokens = line.split(" ");
            for (int k = 1; k < tokens.length; k++) {
                StringBuilder ahead = new StringBuilder();
                for (int i = 0; i < k; i++) {
                    ahead.append(tokens[i]).append(' ');
                }
                boolean number = !tokens[k].equals(";");
                Check.refused(ahead + "x", 2, ahead.length());
                Check.refused(ahead + "line eldest;", 2, ahead.length());
                Check.refused(ahead + (number ? ";" : "0;"), 2, ahead.length());
                Check.refused(ahead.toString(), 2, ahead.length());
                Check.refused(ahead.toString().trim(), 2, ahead.length() - 1);
                Check.refused(ahead + "!", 1, ahead.length());
            }
        }
        Check.refused("line;", 2, 4);
        Check.refused("line 0;", 2, 5);
        Check.refused("line", 2, 4);
        Check.refused("line eldest", 2, 11);
        Check.refused("line eldest latest;", 2, 12);
        Check.refused("line eldest 0 line", 2, 14);
        Check.refused("line eldest 0 1", 2, 15);
        Check.refused("line eldest;;", 2, 12);
        Check.refused("chance 1;;", 2, 9);
        Check.refused("chance 1;1", 2, 9);
    }

    /** The end's place is the length, whatever blanks are there. */
    private static void theEnd() {
        for (int blanks = 0; blanks <= 9; blanks++) {
            Check.refused("thing 0 0" + " ".repeat(blanks), 2, 9 + blanks);
            Check.refused("line" + " ".repeat(blanks), 2, 4 + blanks);
            Check.refused("line eldest 9 " + " ".repeat(blanks), 2, 14 + blanks);
            Check.refused("line eldest 9;" + " ".repeat(blanks), 6, 14 + blanks);
        }
        Check.refused("thing 0" + " ".repeat(473), 2, 480);
        Check.refused("draw 0 0 0;" + " ".repeat(469), 6, 480);
    }

    private static void twice() {
        Check.refused("chance 1;chance 1;", 4, 9);
        Check.refused("chance 1;  chance", 4, 11);
        Check.refused("chance 1;line eldest;chance 99;", 4, 21);
        Check.refused("chance 1;chance !", 4, 9);
        Check.refused("chance 10;line x;chance 1;", 2, 15);
        Check.refused("line eldest 0 0;", 4, 14);
        Check.refused("line eldest 0 1 00;", 4, 16);
        Check.refused("line eldest 9;line eldest;line eldest 1 9;", 4, 40);
        Check.refused(TEN + "line eldest 0 1 2 3 4 5 6 7;line latest 8 9 0;", 4, 224);
        Check.taken(TEN + "line eldest 0 1 2 3 4 5 6 7;line latest 8 9;line latest;", 13);
    }

    /** The last one that there may be is taken; the next one is a FAULT, whatever comes behind its NAME. */
    private static void tooMany() {
        Check.taken(TEN, 10);
        Check.refused(TEN + "thing", 5, 180);
        Check.refused(TEN + "  thing 4;", 5, 182);
        Check.refused(THING.repeat(9) + "thing", 2, 167);
        String three = "line eldest;line eldest;line eldest;";
        Check.taken(three, 3);
        Check.refused(three + "line", 5, 36);
        Check.refused(three + " line x", 5, 37);
        Check.refused("line eldest;line eldest;line", 2, 28);
        for (int puts = 0; puts <= 12; puts++) {
            String twelve = THING + "line eldest;" + "put 1 0 0 0;".repeat(puts) + "draw 1 0 0;".repeat(12 - puts);
            Check.taken(twelve, 14);
            Check.refused(twelve + "put", 5, twelve.length());
            Check.refused(twelve + "draw 0", 5, twelve.length());
            Check.refused(twelve + "chance 11;", 3, twelve.length() + 7);
        }
        Check.taken(TEN + "line eldest 9 8 7 6 5 4 3 2;line eldest 1 0;", 12);
        Check.refused(TEN + "line eldest 9 8 7 6 5 4 3 2 1;", 5, 208);
        Check.refused("line latest;line eldest 9 8 7 6 5 4 3 2 1 !", 5, 40);
        Check.refused("line latest;line eldest;line latest 9 8 7 6 5 4 3 2 0;", 5, 52);
    }

    private static void behindAll() {
        Check.taken(THING.repeat(3) + "line eldest 2;", 4);
        Check.refused(THING.repeat(3) + "line eldest 3;", 6, 68);
        Check.taken(THING.repeat(3) + "line eldest;put 0 0 0 2;", 5);
        Check.refused(THING.repeat(3) + "line eldest;put 0 0 0 3;", 6, 78);
        Check.taken(THING + "line eldest;line eldest;put 0 0 1 0;", 4);
        Check.refused(THING + "line eldest;line eldest;put 0 0 2 0;", 6, 54);
        Check.taken("line eldest;line eldest;draw 0 0 1;", 3);
        Check.refused("line eldest;line eldest;draw 0 0 2;", 6, 35);
        Check.refused(THING + "put 0 0 0 0;", 6, 30);
        Check.refused("draw 0 0 0;", 6, 11);
        Check.taken("line eldest 9;" + TEN, 11);
        Check.refused("line eldest 9;" + THING.repeat(9), 6, 176);
        Check.taken("draw 0 0 2;line eldest;line eldest;line eldest;", 4);
        Check.refused("draw 0 0 2;line eldest;line eldest;", 6, 35);
        Check.taken("put 0 0 2 9;line eldest;line eldest;line eldest;" + TEN, 14);
    }

    /** What is read first is refused first, even if a FAULT with a less number stands behind it. */
    private static void theFirstMet() {
        Check.refused("line eldest 3 !", 1, 14);
        Check.refused("draw 0 0 2;chance 11;", 3, 18);
        Check.refused("chance 11!", 3, 7);
        Check.refused("chance 1!;", 1, 8);
        Check.refused("chance x!", 2, 7);
        Check.refused("line x!", 2, 5);
        Check.refused("xline!", 2, 0);
        Check.refused("thing 4!", 3, 6);
        Check.refused("line eldest 1 1!", 4, 14);
        Check.refused("line eldest 0 1 2 3 4 5 6 7 8!", 5, 28);
        Check.refused("line eldest 0 1 2 3 4 5 6 7 10", 3, 28);
        Check.refused("line eldest 0 1 2 3 4 5 6 7 0", 4, 28);
        Check.refused("line eldest 0 1 2 3 4 5 6 7 x", 2, 28);
        Check.refused("line eldest 0 1 2 3 4 5 6 7 800", 1, 28);
        Check.refused("draw 5 0 0;draw 4!", 3, 16);
    }

    /** A text of each FAULT: all but THE TAPE and fault() is as it was. */
    private static void aFaultLeavesWhatWasTold() {
        String[] faulty = {"thing 0 1 2 3 4 5;line latest 0;chance 3;draw 9 0 0;!", "thing 1 1 1 1 1 1;line", "chance 2;chance 1;",
            "chance 11;", TEN + "thing", "line lightest 9;", "chance 0;draw 0 0 0;", ";", "line eldest;line x;"};
        for (Scene scene : Scene.values()) {
            for (String text : faulty) {
                FirstPut x = scene.made();
                FirstPut twin = scene.made();
                x.end(0);
                twin.end(0);
                Check.due(text + " is refused", Check.tell(x, text) <= -10 ? 1 : 0, 1);
                Check.tell(x, "!");
                Check.tell(twin, "!");
                Check.due(scene + " stays by " + text, Scene.dump(x).equals(Scene.dump(twin)) ? 1 : 0, 1);
            }
        }
    }

    /** Nothing of the text ahead is left, be it one that was taken or one that was refused: neither its limits nor what it told. */
    private static void oneTextBehindAnother() {
        String all = TEN + "line eldest 0 1 2 3 4 5 6 7;line latest 8 9;line lightest;chance 3;" + "draw 99 0 2;".repeat(12);
        FirstPut x = new FirstPut();
        for (int time = 0; time < 3; time++) {
            Check.due("all that there may be, time " + time, Check.tell(x, all), 26);
            Check.due("and refused", Check.tell(x, all + "!"), -10 - all.length());
        }
        Check.due("where it lies", x.thing(8, 3), 0);
        Check.due("THINGS that lie nowhere", Check.tell(x, "thing 2 0 0 0 0 0;".repeat(9) + "line eldest;draw 0 0 0;chance 4;"), 12);
        for (int t = 0; t < 9; t++) {
            Check.due("it is held", x.thing(t, 1), 2);
            Check.due("it has no place", x.thing(t, 2), NONE);
            Check.due("nobody put it in", x.thing(t, 3), NONE);
        }
        Check.due("no tenth THING", x.thing(9, 1), BAD);
        Check.due("nothing lies there", x.line(0, 1), 0);
        Check.due("an earlier DAY", x.visit(0, 0), 0);
        Check.due("its CHANCE", x.chance(0), 4);
        Check.due("who holds none", x.holds(0), 0);
    }

    private static void faultIsOfTheLatest() {
        FirstPut x = new FirstPut();
        String[] texts = {"!", "x", "chance 11;", "chance 1;chance", TEN + "thing", "draw 0 0 0;"};
        for (int fault = 1; fault <= 6; fault++) {
            Check.tell(x, texts[fault - 1]);
            Check.due("fault " + fault, x.fault(), fault);
            Check.due("asked again", x.fault(), fault);
            x.feed(0);
            x.end(0);
            x.chance(11);
            Check.due("other calls leave it", x.fault(), fault);
        }
        Check.due("an empty text is taken", x.bank(), 0);
        Check.due("no fault then", x.fault(), 0);
    }
}
