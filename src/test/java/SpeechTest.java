/** Promises 7 to 12: speeches, pauses, linings, what is undone, votes, THE LOT. */
public final class SpeechTest {
    private static final Checks CHECKS = new Checks("SpeechTest");

    public static void main(String[] args) {
        aMinuteOfASpeech();
        secondsLoseNothing();
        warmthHasBounds();
        theFrozenStayFrozen();
        speechesRefused();
        coughs();
        coughsAreAskedAsOften();
        pauses();
        linings();
        undoing();
        tenAreKnown();
        undoingLeavesTheLot();
        refusedIsNotUndone();
        votes();
        CHECKS.end();
    }

    private static void due(String call, long got, long want) {
        CHECKS.due(call, got, want);
    }

    private static void warmths(String when, LastCoat x, int... want) {
        for (int m = 0; m < want.length; m++) {
            due(when + ": WARMTH of " + m, x.member(m, 0), want[m]);
        }
    }

    private static void aMinuteOfASpeech() {
        LastCoat x = Checks.told("member 5 1;member 9 0;member 3 0;cold 2;fur 3;");
        due("speaks(1, 1)", x.speaks(1, 1), 1);
        warmths("1 spoke", x, 3, 12, 1);
        due("the coat", x.told(3), 1);
        due("speaks(0, 2)", x.speaks(0, 2), 2);
        warmths("0 spoke", x, 9, 8, 0);
        due("the coat", x.told(3), 0);
        due("MINUTES", x.told(4), 3);
        due("FROZEN", x.told(5), 4);
    }

    private static void secondsLoseNothing() {
        LastCoat x = Checks.told("member 5 1;member 5 0;member 5 0;seconds 1 0;seconds 0 2;");
        x.speaks(0, 2);
        warmths("1 seconds 0", x, 7, 5, 3);
        x.speaks(1, 1);
        warmths("nobody seconds 1", x, 6, 6, 2);
        x.speaks(2, 3);
        warmths("0 seconds 2", x, 6, 3, 5);
        x.pause(1);
        warmths("who seconds the wearer, in a pause", x, 6, 2, 6);
    }

    private static void warmthHasBounds() {
        LastCoat x = Checks.told("member 18 1;member 4 1;cold 5;fur 5;");
        x.speaks(0, 1);
        warmths("20 is the most, 0 the least", x, 20, 0);
        LastCoat y = Checks.told("member 20 1;member 5 1;fur 0;cold 0;");
        y.speaks(1, 9);
        warmths("neither FUR nor COLD", y, 20, 5);
    }

    private static void theFrozenStayFrozen() {
        LastCoat x = Checks.told("member 9 1;member 1 1;member 9 0;seconds 1 0;cold 1;fur 5;");
        x.speaks(2, 1);
        due("who is FROZEN", x.told(5), 2);
        x.speaks(0, 9);
        warmths("who seconds, but is FROZEN, gains nothing", x, 20, 0, 5);
        due("speaks(1, 1)", x.speaks(1, 1), LastCoat.STATE);
        due("the coat stays with 0", x.told(3), 0);
        due("MINUTES", x.told(4), 10);
    }

    private static void speechesRefused() {
        LastCoat x = Checks.told("member 1 1;member 5 0;");
        due("speaks(2, 1)", x.speaks(2, 1), LastCoat.BAD);
        due("speaks(-1, 1)", x.speaks(-1, 1), LastCoat.BAD);
        due("speaks(MIN, 1)", x.speaks(Integer.MIN_VALUE, 1), LastCoat.BAD);
        due("speaks(0, 0)", x.speaks(0, 0), LastCoat.BAD);
        due("speaks(0, 10)", x.speaks(0, 10), LastCoat.BAD);
        due("speaks(0, -1)", x.speaks(0, -1), LastCoat.BAD);
        due("speaks(0, MAX)", x.speaks(0, Integer.MAX_VALUE), LastCoat.BAD);
        due("nothing went by", x.told(4), 0);
        due("the coat hangs", x.told(3), LastCoat.NONE);
        due("none to be undone", x.count(3), 0);
        due("speaks(1, 9)", x.speaks(1, 9), 9);
        due("FROZEN, and a wrong n: BAD first", x.speaks(0, 10), LastCoat.BAD);
        due("FROZEN", x.speaks(0, 1), LastCoat.STATE);
        due("a new object has nobody", new LastCoat().speaks(0, 1), LastCoat.BAD);
    }

    private static void coughs() {
        for (int coughs = 0; coughs <= 9; coughs++) {
            LastCoat x = Checks.told("member 20 1;member 20 0;coughs " + coughs + ";");
            for (int lot = -3; lot <= 40; lot++) {
                int seed = lot * 123456789;
                x.lot(seed);
                int minutes = 1;
                int then = seed;
                while (minutes < 9) {
                    then = then * 1103515245 + 12345;
                    if ((then >>> 16) % 10 < coughs) {
                        break;
                    }
                    minutes++;
                }
                int before = x.told(4);
                String call = "speaks(0, 9), coughs " + coughs + ", lot " + seed;
                due(call, x.speaks(0, 9), minutes);
                due(call + ": MINUTES", x.told(4), before + minutes);
                due(call + ": THE LOT", x.lot(0), then);
            }
        }
    }

    /** THE LOT goes on ahead of each MINUTE but the first, in a PAUSE never. */
    private static void coughsAreAskedAsOften() {
        LastCoat x = Checks.told("member 9 1;");
        due("lot(7)", x.lot(7), 1);
        x.speaks(0, 1);
        due("one MINUTE asks nothing", x.lot(7), 7);
        x.pause(9);
        due("a PAUSE asks nothing", x.lot(7), 7);
        x.speaks(0, 3);
        due("three MINUTES ask twice", x.lot(7), (7 * 1103515245 + 12345) * 1103515245 + 12345);
        LastCoat y = Checks.told("member 9 1;coughs 9;");
        y.lot(77);
        due("speaks(0, 9)", y.speaks(0, 9), 1);
        due("the DRAW that ended it counts", y.lot(0), 77 * 1103515245 + 12345);
        due("lot(MIN)", y.lot(Integer.MIN_VALUE), 0);
        due("lot(MAX)", y.lot(Integer.MAX_VALUE), Integer.MIN_VALUE);
        due("lot(0)", y.lot(0), Integer.MAX_VALUE);
    }

    private static void pauses() {
        LastCoat x = Checks.told("member 3 1;member 2 0;member 9 0;coughs 9;");
        due("pause(0)", x.pause(0), LastCoat.BAD);
        due("pause(10)", x.pause(10), LastCoat.BAD);
        due("pause(-1)", x.pause(-1), LastCoat.BAD);
        due("pause(MAX)", x.pause(Integer.MAX_VALUE), LastCoat.BAD);
        due("none to be undone", x.count(3), 0);
        due("pause(1)", x.pause(1), 0);
        warmths("the coat hangs", x, 2, 1, 8);
        due("the coat hangs", x.told(3), LastCoat.NONE);
        x.speaks(2, 1);
        warmths("2 spoke", x, 1, 0, 9);
        due("pause(3)", x.pause(3), 2);
        warmths("2 wears the coat", x, 0, 0, 12);
        due("the coat", x.told(3), 2);
        due("MINUTES", x.told(4), 5);
        due("pause(9) of nobody", new LastCoat().pause(9), 0);
    }

    private static void linings() {
        LastCoat x = Checks.told("member 3 1;fur 3;");
        due("lining()", x.lining(), 4);
        x.speaks(0, 2);
        due("a LINED coat warms more", x.member(0, 0), 11);
        due("lining()", x.lining(), 5);
        due("lining() at 5", x.lining(), LastCoat.STATE);
        due("FUR NOW", x.told(1), 5);
        due("MINUTES", x.told(4), 2);
        due("UNDONE", x.count(3), 3);
        due("told 5", Checks.told("fur 5;").lining(), LastCoat.STATE);
        due("told 0", Checks.told("fur 0;").lining(), 1);
    }

    private static void undoing() {
        LastCoat x = Checks.told("member 3 1;member 9 0;");
        x.speaks(0, 2);
        x.lining();
        x.pause(3);
        warmths("behind all", x, 11, 4);
        due("undo() of the pause", x.undo(), 2);
        warmths("behind the lining", x, 5, 7);
        due("FUR", x.told(1), 2);
        due("MINUTES", x.told(4), 2);
        due("undo() of the lining", x.undo(), 1);
        due("FUR", x.told(1), 1);
        due("the coat", x.told(3), 0);
        due("undo() of the speech", x.undo(), 0);
        warmths("behind nothing", x, 3, 9);
        due("the coat hangs", x.told(3), LastCoat.NONE);
        due("MINUTES", x.told(4), 0);
        due("undo() of nothing", x.undo(), LastCoat.STATE);
        x.speaks(1, 1);
        due("speech undone as a whole", x.speaks(0, 9), 9);
        due("undo()", x.undo(), 1);
        warmths("behind one", x, 2, 10);
        due("the coat", x.told(3), 1);
    }

    private static void tenAreKnown() {
        LastCoat x = Checks.told("member 1 1;fur 1;");
        for (int i = 1; i <= 13; i++) {
            x.speaks(0, 1);
            due("count(3)", x.count(3), Math.min(10, i));
        }
        for (int i = 9; i >= 0; i--) {
            due("undo()", x.undo(), i);
            due("MINUTES", x.told(4), i + 3);
            due("WARMTH", x.member(0, 0), i + 4);
        }
        due("the eleventh is lost", x.undo(), LastCoat.STATE);
        due("MINUTES stay", x.told(4), 3);
        x.pause(1);
        due("undo()", x.undo(), 0);
        due("undo()", x.undo(), LastCoat.STATE);
    }

    private static void undoingLeavesTheLot() {
        LastCoat x = Checks.told("member 1 1;");
        x.lot(7);
        x.speaks(0, 2);
        x.rate(0, 0);
        x.undo();
        due("THE TRACE goes on", x.trace(), 1);
        due("THE LOT stays", x.lot(0), 7 * 1103515245 + 12345);
    }

    private static void refusedIsNotUndone() {
        LastCoat x = Checks.told("member 1 1;member 5 0;fur 4;");
        x.lining();
        x.speaks(1, 1);
        x.lining();
        x.speaks(0, 1);
        x.speaks(0, 0);
        x.pause(0);
        due("only two were not refused", x.count(3), 2);
        due("undo()", x.undo(), 1);
        due("the speech is UNDONE", x.told(4), 0);
        due("undo()", x.undo(), 0);
        due("the lining is UNDONE", x.told(1), 4);
    }

    private static void votes() {
        due("nobody", new LastCoat().vote(), 0);
        due("one for it", Checks.told("member 1 1;").vote(), 1);
        due("one against it", Checks.told("member 1 0;").vote(), 0);
        due("as many", Checks.told("member 1 0;member 1 1;").vote(), 0);
        LastCoat x = Checks.told("member 1 0;member 2 1;member 1 1;member 9 0;");
        due("two and two", x.vote(), 0);
        x.speaks(2, 1);
        due("who is FROZEN does not vote", x.vote(), 1);
        x.speaks(3, 1);
        due("one and one", x.vote(), 0);
        due("nothing went by", x.told(4), 2);
    }
}
