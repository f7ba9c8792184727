/**
 * "Refused, and nothing changes, the first of these: BAD (a number is not as told, or there is no
 * such thing), STATE (as told), FULL." Each refusal of each call, just beside what is taken and far
 * off, in objects of which nothing, something, everything was told; and that nothing changed.
 */
public final class RefusedTest {
    private static final Checks CHECKS = new Checks("RefusedTest");
    private static final Twins TWINS = new Twins(CHECKS);
    private static final int[] FAR = {Integer.MIN_VALUE, Integer.MIN_VALUE + 1, -1000, 1000, 1 << 16,
        Integer.MAX_VALUE - 1, Integer.MAX_VALUE};

    private static final Twins.Story NEW = x -> { };
    private static final Twins.Story[] STORIES = {NEW, Twins::rich, Twins::full, Twins::cold};
    private static final String[] NAMES = {"new", "rich", "full", "cold"};
    private static final int[] MEMBERS = {0, 3, 6, 2};

    /** A call of one number, to be tried with numbers that it does not take. */
    private interface ByNumber {
        long ask(LastCoat x, int number);
    }

    public static void main(String[] args) {
        for (int i = 0; i < STORIES.length; i++) {
            typeBad(i);
            memberBad(i);
            toldBad(i);
            speaksBad(i);
            pauseBad(i);
            carryBad(i);
            saveBad(i);
            worthBad(i);
            gameBad(i);
            sawBad(i);
            fitsBad(i);
            rateBad(i);
            keepBad(i);
            backBad(i);
            countBad(i);
        }
        typeFull();
        houseFault();
        speaksState();
        liningState();
        undoState();
        backState();
        sawFull();
        badAheadOfState();
        badAheadOfFull();
        badAheadOfNone();
        CHECKS.end();
    }

    private static void refused(int story, String name, Twins.Call call, long want) {
        TWINS.unchanged(NAMES[story] + ": " + name, STORIES[story], call, want);
    }

    /** Not taken: the number below the least, the one above the most, and numbers far off. */
    private static void beyond(int story, String name, int least, int most, ByNumber call, long want) {
        refused(story, name + " of " + (least - 1), x -> call.ask(x, least - 1), want);
        refused(story, name + " of " + (most + 1), x -> call.ask(x, most + 1), want);
        for (int number : FAR) {
            refused(story, name + " of " + number, x -> call.ask(x, number), want);
        }
    }

    private static void typeBad(int story) {
        beyond(story, "type(59, n)", 1, 8, (x, n) -> x.type(59L, n), LastCoat.BAD);
    }

    private static void memberBad(int story) {
        for (int what = 0; what <= 3; what++) {
            int asked = what;
            beyond(story, "member(m, " + what + ")", 0, MEMBERS[story] - 1, (x, m) -> x.member(m, asked), LastCoat.BAD);
        }
        for (int m = 0; m < MEMBERS[story]; m++) {
            int asked = m;
            beyond(story, "member(" + m + ", what)", 0, 3, (x, what) -> x.member(asked, what), LastCoat.BAD);
        }
    }

    private static void toldBad(int story) {
        beyond(story, "told(what)", 0, 5, (x, what) -> x.told(what), LastCoat.BAD);
    }

    private static void speaksBad(int story) {
        beyond(story, "speaks(m, 1)", 0, MEMBERS[story] - 1, (x, m) -> x.speaks(m, 1), LastCoat.BAD);
        beyond(story, "speaks(m, 9)", 0, MEMBERS[story] - 1, (x, m) -> x.speaks(m, 9), LastCoat.BAD);
        beyond(story, "speaks(0, n)", 1, 9, (x, n) -> x.speaks(0, n), LastCoat.BAD);
    }

    private static void pauseBad(int story) {
        beyond(story, "pause(n)", 1, 9, (x, n) -> x.pause(n), LastCoat.BAD);
    }

    private static void carryBad(int story) {
        refused(story, "carry(-2)", x -> x.carry(-2), LastCoat.BAD);
        refused(story, "carry(-3)", x -> x.carry(-3), LastCoat.BAD);
        refused(story, "carry(MIN)", x -> x.carry(Integer.MIN_VALUE), LastCoat.BAD);
    }

    private static void saveBad(int story) {
        for (int i : new int[] {-1, 0, 5, Integer.MAX_VALUE}) {
            beyond(story, "save(n, " + i + ")", 0, 5, (x, n) -> x.save(n, i), LastCoat.BAD);
        }
        for (int n = 0; n <= 5; n++) {
            int asked = n;
            refused(story, "save(" + n + ", -2)", x -> x.save(asked, -2), LastCoat.BAD);
            refused(story, "save(" + n + ", MIN)", x -> x.save(asked, Integer.MIN_VALUE), LastCoat.BAD);
        }
    }

    private static void worthBad(int story) {
        beyond(story, "worth(m)", 0, MEMBERS[story] - 1, (x, m) -> x.worth(m), LastCoat.BAD);
    }

    private static void gameBad(int story) {
        beyond(story, "game(n, 0)", 0, 5, (x, n) -> x.game(n, 0), LastCoat.BAD);
        beyond(story, "game(n, 1)", 0, 5, (x, n) -> x.game(n, 1), LastCoat.BAD);
        beyond(story, "game(0, what)", 0, 1, (x, what) -> x.game(0, what), LastCoat.BAD);
        beyond(story, "game(5, what)", 0, 1, (x, what) -> x.game(5, what), LastCoat.BAD);
    }

    private static void sawBad(int story) {
        beyond(story, "saw(t, 0)", 0, 5, (x, t) -> x.saw(t, 0), LastCoat.BAD);
        beyond(story, "saw(0, set)", 0, (1 << MEMBERS[story]) - 1, (x, set) -> x.saw(0, set), LastCoat.BAD);
        beyond(story, "saw(5, set)", 0, (1 << MEMBERS[story]) - 1, (x, set) -> x.saw(5, set), LastCoat.BAD);
        // bits of nobody, though those of somebody are among them
        refused(story, "saw(1, somebody and nobody)", x -> x.saw(1, 1 << MEMBERS[story] | 1), LastCoat.BAD);
        refused(story, "saw(1, bit 31)", x -> x.saw(1, 1 << 31), LastCoat.BAD);
        refused(story, "saw(1, bit 30)", x -> x.saw(1, 1 << 30), LastCoat.BAD);
    }

    private static void fitsBad(int story) {
        beyond(story, "fits(n)", 0, 5, (x, n) -> x.fits(n), LastCoat.BAD);
    }

    /** Of what it refuses nothing comes to THE TRACE. */
    private static void rateBad(int story) {
        for (int kind = 0; kind <= 5; kind++) {
            int asked = kind;
            beyond(story, "rate(" + kind + ", m)", 0, MEMBERS[story] - 1, (x, m) -> x.rate(asked, m), LastCoat.NO);
        }
        beyond(story, "rate(kind, 0)", 0, 5, (x, kind) -> x.rate(kind, 0), LastCoat.NO);
    }

    private static void keepBad(int story) {
        beyond(story, "keep(image)", 0, 1, (x, image) -> x.keep(image), LastCoat.BAD);
    }

    private static void backBad(int story) {
        beyond(story, "back(image)", 0, 1, (x, image) -> x.back(image), LastCoat.BAD);
    }

    private static void countBad(int story) {
        beyond(story, "count(what)", 0, 4, (x, what) -> x.count(what), LastCoat.BAD);
    }

    private static void typeFull() {
        for (int n = 1; n <= 8; n++) {
            int bytes = n;
            TWINS.unchanged("type(;, " + n + ") at 200", Twins::full, x -> x.type(59L, bytes), LastCoat.FULL);
            TWINS.unchanged("type(;, " + n + ") at " + (201 - n), x -> {
                Twins.rich(x);
                x.clear();
                Checks.type(x, " ".repeat(201 - bytes));
            }, x -> x.type(59L, bytes), LastCoat.FULL);
        }
    }

    private static void houseFault() {
        refused(1, "house() of a text that ends too early", LastCoat::house, -10 - 22);
        for (String text : new String[] {";", "member 1 1;member 1 2;", "cold 3;fur 4;coughs 5;cold 3;",
            "member 9 1;member 9 1;seconds 0 1;seconds 0 2;", Twins.SIX + "member 1 1;", "fur 0;cold 0;\u0000", "cold 0"}) {
            TWINS.unchanged("house() of '" + text + "'", x -> {
                Twins.full(x);
                x.clear();
                Checks.type(x, text);
            }, x -> x.house() < 0 ? 1 : 0, 1);
        }
    }

    private static void speaksState() {
        refused(1, "speaks(1, 1) of who is FROZEN", x -> x.speaks(1, 1), LastCoat.STATE);
        refused(1, "speaks(1, 9) of who is FROZEN", x -> x.speaks(1, 9), LastCoat.STATE);
        refused(3, "speaks(0, 1) of who is FROZEN", x -> x.speaks(0, 1), LastCoat.STATE);
        refused(3, "speaks(1, 9) of who is FROZEN", x -> x.speaks(1, 9), LastCoat.STATE);
    }

    private static void liningState() {
        refused(2, "lining() of 5", LastCoat::lining, LastCoat.STATE);
        TWINS.unchanged("lining() of 5 as told", x -> Checks.house(x, "fur 5;"), LastCoat::lining, LastCoat.STATE);
    }

    private static void undoState() {
        refused(0, "undo() of none", LastCoat::undo, LastCoat.STATE);
        refused(3, "undo() of none, behind back()", LastCoat::undo, LastCoat.STATE);
    }

    private static void backState() {
        refused(0, "back(0), none was kept", x -> x.back(0), LastCoat.STATE);
        refused(0, "back(1), none was kept", x -> x.back(1), LastCoat.STATE);
        refused(1, "back(1), only 0 was kept", x -> x.back(1), LastCoat.STATE);
        refused(3, "back(0), only 1 was kept", x -> x.back(0), LastCoat.STATE);
    }

    private static void sawFull() {
        for (int t = 0; t <= 5; t++) {
            int minute = t;
            refused(2, "saw(" + t + ", 0), a seventh", x -> x.saw(minute, 0), LastCoat.FULL);
            refused(2, "saw(" + t + ", 63), a seventh", x -> x.saw(minute, 63), LastCoat.FULL);
        }
    }

    private static void badAheadOfState() {
        refused(1, "speaks(1, 0) of who is FROZEN", x -> x.speaks(1, 0), LastCoat.BAD);
        refused(1, "speaks(1, 10) of who is FROZEN", x -> x.speaks(1, 10), LastCoat.BAD);
        refused(3, "back(2), 0 was not kept", x -> x.back(2), LastCoat.BAD);
        refused(0, "back(-1), none was kept", x -> x.back(-1), LastCoat.BAD);
    }

    private static void badAheadOfFull() {
        refused(2, "type(;, 0) at 200", x -> x.type(59L, 0), LastCoat.BAD);
        refused(2, "type(;, 9) at 200", x -> x.type(59L, 9), LastCoat.BAD);
        refused(2, "saw(6, 0), a seventh", x -> x.saw(6, 0), LastCoat.BAD);
        refused(2, "saw(-1, 0), a seventh", x -> x.saw(-1, 0), LastCoat.BAD);
        refused(2, "saw(0, 64), a seventh", x -> x.saw(0, 64), LastCoat.BAD);
    }

    /** Where there is no answer at all (all are FROZEN, nobody is there), a wrong number is BAD. */
    private static void badAheadOfNone() {
        for (int story : new int[] {0, 3}) {
            refused(story, "carry(-1)", x -> x.carry(-1), LastCoat.NONE);
            refused(story, "carry(-2)", x -> x.carry(-2), LastCoat.BAD);
            refused(story, "save(1, -1)", x -> x.save(1, -1), LastCoat.NONE);
            refused(story, "save(1, -2)", x -> x.save(1, -2), LastCoat.BAD);
            refused(story, "save(6, -1)", x -> x.save(6, -1), LastCoat.BAD);
            refused(story, "game(5, 1)", x -> x.game(5, 1), LastCoat.NONE);
            refused(story, "game(6, 1)", x -> x.game(6, 1), LastCoat.BAD);
            refused(story, "worth(2)", x -> x.worth(2), LastCoat.BAD);
        }
        refused(3, "worth(1)", x -> x.worth(1), LastCoat.NONE);
    }
}
