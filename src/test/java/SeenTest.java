/** Promises 17 to 19: what was SEEN, and the plans that fit it. */
public final class SeenTest {
    private static final Checks CHECKS = new Checks("SeenTest");

    public static void main(String[] args) {
        seeing();
        seeingRefused();
        forgetting();
        plansOfAll();
        plansThatFit();
        plansFromTheBeginning();
        fitsRefused();
        CHECKS.end();
    }

    private static void due(String call, long got, long want) {
        CHECKS.due(call, got, want);
    }

    private static void seeing() {
        LastCoat x = Checks.told("member 5 1;member 5 0;");
        for (int i = 1; i <= 6; i++) {
            due("saw(" + (i - 1) + ", 3)", x.saw(i - 1, 3), i);
            due("count(2)", x.count(2), i);
        }
        due("a seventh", x.saw(0, 0), LastCoat.FULL);
        due("count(2)", x.count(2), 6);
        due("BAD ahead of FULL", x.saw(6, 0), LastCoat.BAD);
        due("BAD ahead of FULL", x.saw(0, 4), LastCoat.BAD);
        LastCoat y = Checks.told("member 5 1;");
        due("saw(1, 0)", y.saw(1, 0), 1);
        due("the same once more", y.saw(1, 0), 2);
        due("the other", y.saw(1, 1), 3);
    }

    private static void seeingRefused() {
        LastCoat x = Checks.told("member 5 1;member 5 0;");
        due("saw(-1, 0)", x.saw(-1, 0), LastCoat.BAD);
        due("saw(6, 0)", x.saw(6, 0), LastCoat.BAD);
        due("saw(MIN, 0)", x.saw(Integer.MIN_VALUE, 0), LastCoat.BAD);
        due("saw(MAX, 0)", x.saw(Integer.MAX_VALUE, 0), LastCoat.BAD);
        due("bits of nobody", x.saw(0, 4), LastCoat.BAD);
        due("bits of nobody", x.saw(0, 5), LastCoat.BAD);
        due("bits of nobody", x.saw(0, -1), LastCoat.BAD);
        due("bits of nobody", x.saw(0, Integer.MIN_VALUE), LastCoat.BAD);
        due("bits of nobody", x.saw(0, Integer.MAX_VALUE), LastCoat.BAD);
        due("count(2)", x.count(2), 0);
        due("saw(0, 3)", x.saw(0, 3), 1);
        LastCoat y = new LastCoat();
        due("nobody, saw(5, 0)", y.saw(5, 0), 1);
        due("nobody, saw(5, 1)", y.saw(5, 1), LastCoat.BAD);
        LastCoat z = Checks.told("member 5 1;member 5 0;member 5 1;member 5 0;member 5 1;member 5 0;");
        due("all six", z.saw(0, 63), 1);
        due("a seventh bit", z.saw(0, 64), LastCoat.BAD);
    }

    private static void forgetting() {
        LastCoat x = Checks.told("member 5 1;");
        due("forget() of nothing", x.forget(), 0);
        x.saw(0, 1);
        x.saw(1, 1);
        due("fits(1)", x.fits(1), 0);
        due("forget()", x.forget(), 2);
        due("count(2)", x.count(2), 0);
        due("fits(1)", x.fits(1), 1);
        due("forget() again", x.forget(), 0);
        due("saw(2, 0)", x.saw(2, 0), 1);
    }

    private static void plansOfAll() {
        int all = 1;
        LastCoat x = Checks.told("member 20 1;member 20 1;member 20 1;member 20 0;member 20 0;member 20 0;");
        for (int n = 0; n <= 5; n++) {
            due("fits(" + n + ")", x.fits(n), all);
            all *= 6;
        }
        due("nobody, fits(0)", new LastCoat().fits(0), 1);
        due("nobody, fits(1)", new LastCoat().fits(1), 0);
        due("nobody, fits(5)", new LastCoat().fits(5), 0);
    }

    private static void plansThatFit() {
        LastCoat x = Checks.told("member 1 1;member 3 0;");
        due("fits(2)", x.fits(2), 3);
        x.saw(1, 1);
        due("0: not yet SEEN", x.fits(0), 1);
        due("1: only plan 1", x.fits(1), 1);
        due("2: only plan 1, 1", x.fits(2), 1);
        x.saw(2, 0);
        due("1: what was SEEN behind 2 is not asked", x.fits(1), 1);
        due("2: none", x.fits(2), 0);
        due("3: none", x.fits(3), 0);
        x.forget();
        x.saw(3, 2);
        due("3: 1 FROZEN, by 0, 0, 0", x.fits(3), 1);
        due("2: not asked", x.fits(2), 3);
        x.saw(3, 2);
        due("the same twice", x.fits(3), 1);
        x.saw(3, 0);
        due("neither can be", x.fits(3), 0);
        x.forget();
        x.saw(0, 1);
        due("nobody is FROZEN at first", x.fits(0), 0);
    }

    private static void plansFromTheBeginning() {
        LastCoat x = Checks.told("member 3 1;member 3 0;fur 0;cold 2;");
        int before = x.fits(3);
        x.speaks(0, 2);
        x.lining();
        x.lining();
        due("as told, not NOW", x.fits(3), before);
        due("as told, not NOW", before, 6);
        x.pause(9);
        due("as told, not NOW", x.fits(5), Checks.told("member 3 1;member 3 0;fur 0;cold 2;").fits(5));
        due("COUGHS are not asked", Checks.told("member 3 1;member 3 0;fur 0;cold 2;coughs 9;").fits(3), 6);
        LastCoat y = Checks.told("member 1 1;member 1 0;member 1 0;seconds 1 0;seconds 2 1;");
        y.saw(1, 4);
        due("who seconds is not FROZEN", y.fits(1), 1);
        y.saw(2, 4);
        due("fits(2)", y.fits(2), 2);
    }

    private static void fitsRefused() {
        LastCoat x = Checks.told("member 1 1;");
        due("fits(-1)", x.fits(-1), LastCoat.BAD);
        due("fits(6)", x.fits(6), LastCoat.BAD);
        due("fits(MIN)", x.fits(Integer.MIN_VALUE), LastCoat.BAD);
        due("fits(MAX)", x.fits(Integer.MAX_VALUE), LastCoat.BAD);
    }
}
