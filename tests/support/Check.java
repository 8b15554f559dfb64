/** What the tests share: it counts wrong answers, and tells a text to a bank. */
final class Check {
    private static int wrong = 0;
    private static int asked = 0;

    private Check() {
    }

    static void due(String call, long got, long want) {
        asked++;
        if (got != want) {
            wrong++;
            System.out.println(call + " answered " + got + ", due is " + want);
        }
    }

    static void finish() {
        System.out.println(asked + " answers asked, " + wrong + " wrong");
        if (asked == 0 || wrong != 0) {
            System.exit(1);
        }
    }

    static int wrongSoFar() {
        return wrong;
    }

    /** The text comes onto THE TAPE, which was empty. */
    static void type(FirstPut x, String text) {
        for (int from = 0; from < text.length(); from += 8) {
            long eight = 0;
            for (int i = from; i < from + 8; i++) {
                eight = eight << 8 | (i < text.length() ? text.charAt(i) & 255 : 32);
            }
            x.feed(eight);
        }
        x.end(text.length());
    }

    static int tell(FirstPut x, String text) {
        type(x, text);
        return x.bank();
    }

    static FirstPut told(String text) {
        FirstPut x = new FirstPut();
        if (tell(x, text) < 0) {
            due("a text of the test itself: " + text, x.fault(), 0);
        }
        return x;
    }

    /** A text that is refused, with its FAULT and the FAULT's place. */
    static void refused(String text, int fault, int place) {
        FirstPut x = new FirstPut();
        due("bank() of \"" + text + "\"", tell(x, text), -10 - place);
        due("fault() of \"" + text + "\"", x.fault(), fault);
    }

    static void taken(String text, int lines) {
        FirstPut x = new FirstPut();
        due("bank() of \"" + text + "\"", tell(x, text), lines);
        due("fault() of \"" + text + "\"", x.fault(), 0);
    }
}
