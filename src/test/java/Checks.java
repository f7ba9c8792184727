import java.nio.charset.StandardCharsets;

/** What every test here needs: counts the answers that are due and those that are not. */
final class Checks {
    private final String test;
    private int right;
    private int wrong;

    Checks(String test) {
        this.test = test;
    }

    void due(String call, long got, long want) {
        if (got == want) {
            right++;
            return;
        }
        wrong++;
        System.out.println(test + ": " + call + " answered " + got + ", due is " + want);
    }

    /** Call it last: prints the counts, and ends the program with 1 if an answer was not due. */
    void end() {
        System.out.println(test + ": " + right + " answers as due, " + wrong + " not");
        if (wrong != 0 || right == 0) {
            System.exit(1);
        }
    }

    /** An object that was told this text and took it. */
    static LastCoat told(String text) {
        LastCoat x = new LastCoat();
        int items = house(x, text);
        if (items < 0) {
            throw new IllegalStateException("the test's text is at fault: " + text + ": " + items);
        }
        return x;
    }

    /** Clears THE TEXT, types this one, and answers what house() does. */
    static int house(LastCoat x, String text) {
        x.clear();
        type(x, text);
        return x.house();
    }

    /** Types a text, eight bytes a call; answers what the last call did. */
    static int type(LastCoat x, String text) {
        byte[] bytes = text.getBytes(StandardCharsets.ISO_8859_1);
        int answer = 0;
        for (int from = 0; from < bytes.length; from += 8) {
            int n = Math.min(8, bytes.length - from);
            long v = 0;
            for (int i = 0; i < n; i++) {
                v = v << 8 | bytes[from + i] & 255;
            }
            answer = x.type(v, n);
        }
        return answer;
    }
}
