/** All promises: long runs of calls, drawn from fixed numbers, held against the Model. */
public final class ModelTest {
    private static final Checks CHECKS = new Checks("ModelTest");
    private static final int RUNS = 1200;
    private static final int CALLS = 512;

    private final int run;
    private final LastCoat x = new LastCoat();
    private final Model model = new Model();
    private long drawn;

    private ModelTest(int run) {
        this.run = run;
        drawn = run * 7919L + 17;
    }

    public static void main(String[] args) {
        for (int run = 0; run < RUNS; run++) {
            new ModelTest(run).go();
        }
        texts();
        plans();
        CHECKS.end();
    }

    /** The next of a fixed row of numbers, 0 .. below less 1. */
    private int draw(int below) {
        drawn = drawn * 6364136223846793005L + 1442695040888963407L;
        return (int) ((drawn >>> 33) % below);
    }

    private boolean chance(int percent) {
        return draw(100) < percent;
    }

    private void due(String call, long got, long want) {
        CHECKS.due("run " + run + ": " + call, got, want);
    }

    private void go() {
        // each call of the object counts, those that type the text too: this stays below the limit
        int used = tell(goodText());
        while (used < CALLS - 60) {
            used += chance(3) ? tell(chance(70) ? goodText() : spoilt(goodText())) : aCall();
        }
        look();
    }

    private int tell(String text) {
        due("clear()", x.clear(), model.clear());
        int calls = 2;
        int from = 0;
        while (from < text.length()) {
            int n = Math.min(1 + draw(8), text.length() - from);
            long v = draw(Integer.MAX_VALUE);
            for (int i = 0; i < n; i++) {
                v = v << 8 | text.charAt(from + i) & 255;
            }
            due("type(" + v + ", " + n + ")", x.type(v, n), model.type(v, n));
            from += n;
            calls++;
        }
        due("house() of '" + text + "'", x.house(), model.house());
        return calls;
    }

    private String goodText() {
        StringBuilder text = new StringBuilder();
        int members = chance(5) ? 0 : 1 + draw(6);
        int warmest = 1 + draw(chance(60) ? 6 : 20);
        for (int m = 0; m < members; m++) {
            text.append("member ").append(1 + draw(warmest)).append(' ').append(draw(2)).append(';');
        }
        for (int i = draw(6); i > 0 && members > 1; i--) {
            int a = draw(members);
            text.append("seconds ").append(a).append(' ').append((a + 1 + draw(members - 1)) % members).append(';');
        }
        if (chance(60)) {
            text.append("cold ").append(draw(6)).append(';');
        }
        if (chance(60)) {
            text.append("fur ").append(draw(6)).append(';');
        }
        if (chance(40)) {
            text.append("coughs ").append(draw(10)).append(';');
        }
        return text.length() > 200 ? text.substring(0, text.lastIndexOf(";", 199) + 1) : text.toString();
    }

    private String spoilt(String text) {
        String[] bits = {" ", ";", "0", "1", "9", "20", "100", "x", "member", "seconds ", "cold ", "fur 1;", "coughs",
            "\u0000", "\u00ff", "A", "-1", "  "};
        StringBuilder spoilt = new StringBuilder(text);
        for (int i = 1 + draw(3); i > 0; i--) {
            int at = draw(spoilt.length() + 1);
            if (chance(50) && at < spoilt.length()) {
                spoilt.delete(at, Math.min(spoilt.length(), at + 1 + draw(4)));
            } else {
                spoilt.insert(at, bits[draw(bits.length)]);
            }
        }
        spoilt.setLength(Math.min(200, chance(30) ? draw(spoilt.length() + 1) : spoilt.length()));
        return spoilt.toString();
    }

    /** A number from least to most, now and then one beyond. */
    private int about(int least, int most) {
        if (chance(4)) {
            int[] beyond = {least - 1, most + 1, -1, Integer.MIN_VALUE, Integer.MAX_VALUE, 64};
            return beyond[draw(beyond.length)];
        }
        return least + draw(most - least + 1);
    }

    private int aCall() {
        int a = about(0, 5);
        int b = about(0, 5);
        int n = about(1, 9);
        int i = about(-1, 5);
        switch (draw(26)) {
            case 0: due("member", x.member(a, b - 1), model.member(a, b - 1)); break;
            case 1: due("told(" + a + ")", x.told(a), model.told(a)); break;
            case 2:
            case 3:
            case 4: due("speaks(" + a + ", " + n + ")", x.speaks(a, n), model.speaks(a, n)); break;
            case 5:
            case 6: due("speaks(" + a + ", 1)", x.speaks(a, 1), model.speaks(a, 1)); break;
            case 7: due("pause(" + n + ")", x.pause(n), model.pause(n)); break;
            case 8: due("lining()", x.lining(), model.lining()); break;
            case 9:
            case 10:
            case 11:
            case 12: due("undo()", x.undo(), model.undo()); break;
            case 13: due("vote()", x.vote(), model.vote()); break;
            case 14: due("lot(" + n + ")", x.lot(n * 99991), model.lot(n * 99991)); break;
            case 15: due("carry(" + i + ")", x.carry(i), model.carry(i)); break;
            case 16: due("save(" + a + ", " + i + ")", x.save(a, i), model.save(a, i)); break;
            case 17: due("worth(" + a + ")", x.worth(a), model.worth(a)); break;
            case 18: due("game(" + a + ", 0)", x.game(a, 0), model.game(a, 0)); break;
            case 19: due("game(" + a + ", " + (i % 2) + ")", x.game(a, i % 2), model.game(a, i % 2)); break;
            case 20: due("saw(" + a + ", " + b + ")", x.saw(a, b * i), model.saw(a, b * i)); break;
            case 21: due("forget()", x.forget(), model.forget()); break;
            case 22: due("fits(" + a + ")", x.fits(a), model.fits(a)); break;
            case 23: due("rate(" + a + ", " + b + ")", x.rate(a, b), model.rate(a, b)); break;
            case 24: due("keep(" + i + ")", x.keep(i), model.keep(i)); break;
            default: due("back(" + i + ")", x.back(i), model.back(i)); break;
        }
        return 1 + (chance(10) ? look() : 0);
    }

    /** Everything that can be looked at. */
    private int look() {
        for (int m = 0; m < x.count(0); m++) {
            due("member(" + m + ", 0)", x.member(m, 0), model.member(m, 0));
            due("member(" + m + ", 3)", x.member(m, 3), model.member(m, 3));
        }
        for (int what = 1; what <= 5; what++) {
            due("told(" + what + ")", x.told(what), model.told(what));
            due("count(" + (what - 1) + ")", x.count(what - 1), model.count(what - 1));
        }
        due("trace()", x.trace(), model.trace());
        return 30;
    }

    /** Many texts, most of them at fault, each told to objects of its own. */
    private static void texts() {
        for (int i = 0; i < 40000; i++) {
            ModelTest one = new ModelTest(100000 + i);
            String text = one.spoilt(one.goodText());
            one.tell(text);
            one.look();
        }
    }

    /** Every question about plans, soon after a text was told, while most are warm yet. */
    private static void plans() {
        for (int i = 0; i < 1000; i++) {
            ModelTest one = new ModelTest(200000 + i);
            one.tell(one.goodText());
            one.begin();
            one.askPlans();
        }
    }

    private void begin() {
        for (int i = draw(3); i > 0; i--) {
            int m = draw(6);
            due("speaks(" + m + ", 1)", x.speaks(m, 1), model.speaks(m, 1));
            due("lining()", x.lining(), model.lining());
        }
        for (int i = draw(3); i > 0; i--) {
            int t = draw(6);
            int set = draw(2) << draw(6);
            due("saw(" + t + ", " + set + ")", x.saw(t, set), model.saw(t, set));
        }
    }

    private void askPlans() {
        for (int i = -1; i <= 5; i++) {
            due("carry(" + i + ")", x.carry(i), model.carry(i));
            due("worth(" + i + ")", x.worth(i), model.worth(i));
        }
        for (int n = 0; n <= 5; n++) {
            for (int i = -1; i < n; i++) {
                due("save(" + n + ", " + i + ")", x.save(n, i), model.save(n, i));
            }
            due("game(" + n + ", 0)", x.game(n, 0), model.game(n, 0));
            due("game(" + n + ", 1)", x.game(n, 1), model.game(n, 1));
            due("fits(" + n + ")", x.fits(n), model.fits(n));
        }
    }
}
