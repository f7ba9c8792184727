/** Promises 13 to 16: CARRY, SAVE, WORTH, GAME. */
public final class PlanTest {
    private static final Checks CHECKS = new Checks("PlanTest");

    public static void main(String[] args) {
        carriedSoonest();
        carriedFirstByMembers();
        carriedNever();
        carryRefused();
        plansBeginNow();
        plansChangeNothing();
        saving();
        savingFirst();
        savingNone();
        saveRefused();
        worths();
        worthOfNone();
        games();
        gamesWithPauses();
        gamesRefused();
        CHECKS.end();
    }

    private static void due(String call, long got, long want) {
        CHECKS.due(call, got, want);
    }

    private static void carry(String text, int... plan) {
        LastCoat x = Checks.told(text);
        due(text + " carry(-1)", x.carry(-1), plan.length);
        for (int i = 0; i < plan.length; i++) {
            due(text + " carry(" + i + ")", x.carry(i), plan[i]);
        }
        due(text + " carry(" + plan.length + ")", x.carry(plan.length), -5);
        due(text + " carry(MAX)", x.carry(Integer.MAX_VALUE), -5);
    }

    private static void save(String text, int most, int... plan) {
        LastCoat x = Checks.told(text);
        int n = plan.length;
        due(text + " save(" + n + ", -1)", x.save(n, -1), most);
        for (int i = 0; i < n; i++) {
            due(text + " save(" + n + ", " + i + ")", x.save(n, i), plan[i]);
        }
        due(text + " save(" + n + ", " + n + ")", x.save(n, n), -5);
        due(text + " save(" + n + ", MAX)", x.save(n, Integer.MAX_VALUE), -5);
    }

    private static void game(String text, int n, int won, int whom) {
        LastCoat x = Checks.told(text);
        due(text + " game(" + n + ", 0)", x.game(n, 0), won);
        due(text + " game(" + n + ", 1)", x.game(n, 1), whom);
    }

    private static void carriedSoonest() {
        carry("member 1 1;");
        carry("member 9 1;member 1 0;", 0);
        carry("member 9 1;member 2 0;", 0, 0);
        carry("member 9 1;member 3 0;", 0, 0, 0);
        carry("member 9 1;member 4 0;", 0, 0, 0, 0);
        carry("member 9 1;member 5 0;", 0, 0, 0, 0, 0);
        carry("member 9 1;member 20 0;cold 5;", 0, 0, 0, 0);
        carry("member 9 1;member 2 0;coughs 9;", 0, 0);
    }

    private static void carriedFirstByMembers() {
        carry("member 2 0;member 3 1;", 1, 1);
        carry("member 9 1;member 2 1;member 3 0;member 3 0;", 0, 0, 0);
        // 1 would be FROZEN behind 0, 0, and his vote is needed
        carry("member 9 1;member 2 1;member 3 0;member 20 0;", 0, 1, 0);
        carry("member 9 1;member 9 1;member 2 0;member 2 0;seconds 2 0;seconds 3 1;", 0, 0);
        // who is against it may speak too, and here must: all three for it would freeze 3 no sooner
        carry("member 1 0;member 1 0;member 2 1;", 2);
        carry("member 5 0;member 1 1;member 1 0;member 1 1;seconds 1 0;seconds 3 0;", 0);
    }

    private static void carriedNever() {
        for (String text : new String[] {"", "member 1 0;", "member 9 1;member 6 0;", "member 9 1;member 1 0;cold 0;",
            "member 9 1;member 9 0;", "member 1 0;member 9 1;member 9 0;cold 5;seconds 2 1;seconds 0 1;"}) {
            LastCoat x = Checks.told(text);
            due(text + " carry(-1)", x.carry(-1), LastCoat.NONE);
            due(text + " carry(0)", x.carry(0), LastCoat.NONE);
            due(text + " carry(MAX)", x.carry(Integer.MAX_VALUE), LastCoat.NONE);
        }
        LastCoat x = Checks.told("member 1 1;member 1 0;");
        x.pause(1);
        due("all are FROZEN", x.carry(-1), LastCoat.NONE);
    }

    private static void carryRefused() {
        due("carry(-2)", Checks.told("member 1 1;").carry(-2), LastCoat.BAD);
        due("carry(MIN)", Checks.told("member 1 1;").carry(Integer.MIN_VALUE), LastCoat.BAD);
        due("carry(-2), BAD ahead of NONE", new LastCoat().carry(-2), LastCoat.BAD);
    }

    private static void plansBeginNow() {
        LastCoat x = Checks.told("member 9 1;member 3 0;");
        x.speaks(0, 1);
        due("a MINUTE is behind us", x.carry(-1), 2);
        LastCoat y = Checks.told("member 2 1;member 2 1;member 9 1;fur 0;");
        due("FUR as told", y.save(4, -1), 2);
        y.lining();
        due("FUR NOW", y.save(4, -1), 3);
        LastCoat z = Checks.told("member 1 1;member 9 0;member 9 0;cold 5;fur 0;");
        due("0 keeps himself", z.carry(-1), 2);
        z.speaks(1, 1);
        due("0 is FROZEN", z.carry(-1), LastCoat.NONE);
    }

    private static void plansChangeNothing() {
        LastCoat x = Checks.told("member 5 1;member 3 0;member 4 0;member 4 1;coughs 9;");
        x.speaks(1, 1);
        x.saw(1, 0);
        x.lot(5);
        x.carry(-1);
        x.carry(0);
        x.save(5, -1);
        x.save(5, 3);
        x.worth(0);
        x.game(5, 0);
        x.game(5, 1);
        x.fits(5);
        due("WARMTH", x.member(0, 0), 4);
        due("WARMTH", x.member(1, 0), 4);
        due("WARMTH", x.member(2, 0), 3);
        due("WARMTH", x.member(3, 0), 3);
        due("the coat", x.told(3), 1);
        due("FUR", x.told(1), 1);
        due("MINUTES", x.told(4), 1);
        due("UNDONE", x.count(3), 1);
        due("SEEN", x.count(2), 1);
        due("THE TRACE", x.trace(), 0);
        due("COUGHS are not asked", x.lot(0), 5);
    }

    private static void saving() {
        save("member 1 1;", 1);
        save("member 1 1;", 1, 0);
        save("member 1 1;", 1, 0, 0, 0, 0, 0);
        save("member 1 1;member 1 0;", 2);
        save("member 1 1;member 1 0;", 1, 0);
        save("member 9 1;member 9 0;", 2, 0, 0, 0, 0, 0);
        save("member 2 1;member 2 0;", 2, 0, 1, 0, 1, 0);
        save("member 2 1;member 2 0;fur 0;", 1, 0, 0, 0);
        save("member 5 1;member 5 0;member 5 0;cold 0;", 3, 0, 0, 0, 0, 0);
        save("member 2 1;member 2 0;coughs 9;", 2, 0, 1);
        save("", 0);
    }

    private static void savingFirst() {
        save("member 1 1;member 1 0;member 1 1;seconds 0 1;", 2, 1);
        save("member 1 1;member 1 0;member 1 1;seconds 0 1;seconds 0 2;", 2, 1);
        save("member 3 1;member 1 0;member 1 1;seconds 2 1;", 3, 1);
        save("member 1 1;member 3 0;", 2, 0, 0);
        save("member 3 1;member 1 0;", 2, 1, 0);
        save("member 3 1;member 1 0;", 2, 1, 0, 1);
    }

    private static void savingNone() {
        LastCoat x = new LastCoat();
        due("nobody, save(0, -1)", x.save(0, -1), 0);
        due("nobody, save(0, 0)", x.save(0, 0), -5);
        due("nobody, save(1, -1)", x.save(1, -1), LastCoat.NONE);
        due("nobody, save(5, 9)", x.save(5, 9), LastCoat.NONE);
        LastCoat y = Checks.told("member 1 1;member 2 1;");
        y.pause(1);
        due("one is FROZEN", y.save(0, -1), 1);
        due("one is FROZEN", y.save(3, -1), 1);
        due("one is FROZEN", y.save(3, 0), 1);
        y.pause(1);
        due("all are FROZEN", y.save(0, -1), 0);
        due("all are FROZEN", y.save(0, 0), -5);
        due("all are FROZEN", y.save(1, -1), LastCoat.NONE);
        due("all are FROZEN", y.save(5, 0), LastCoat.NONE);
        due("all are FROZEN", y.save(5, 5), LastCoat.NONE);
    }

    private static void saveRefused() {
        LastCoat x = Checks.told("member 1 1;");
        due("save(-1, 0)", x.save(-1, 0), LastCoat.BAD);
        due("save(6, 0)", x.save(6, 0), LastCoat.BAD);
        due("save(MIN, 0)", x.save(Integer.MIN_VALUE, 0), LastCoat.BAD);
        due("save(MAX, 0)", x.save(Integer.MAX_VALUE, 0), LastCoat.BAD);
        due("save(0, -2)", x.save(0, -2), LastCoat.BAD);
        due("save(5, MIN)", x.save(5, Integer.MIN_VALUE), LastCoat.BAD);
        due("BAD ahead of NONE", new LastCoat().save(5, -2), LastCoat.BAD);
    }

    private static void worths() {
        LastCoat x = Checks.told("member 2 0;member 3 1;");
        due("who is against it", x.worth(0), 0);
        due("only he can", x.worth(1), -5);
        LastCoat y = Checks.told("member 9 1;member 9 1;member 2 0;member 4 0;seconds 2 1;seconds 3 1;");
        due("0 freezes 2", y.carry(-1), 2);
        due("without 0: 1 shelters both, but 3 does not shelter 2", y.worth(0), 0);
        // only while 0 speaks is 2 not sheltered; without 0 it is 3 who must freeze
        for (int warmth = 1; warmth <= 6; warmth++) {
            LastCoat z = Checks.told("member 9 1;member 9 1;member 1 0;member " + warmth + " 0;seconds 2 1;seconds 2 3;");
            due("0 speaks", z.carry(-1), 1);
            due("without 0, 3 at " + warmth, z.worth(0), warmth == 6 ? -5 : warmth - 1);
            due("without 1", z.worth(1), 0);
        }
        due("carried as it is", Checks.told("member 1 1;").worth(0), 0);
        // he votes as ever, though he never speaks
        LastCoat w = Checks.told("member 2 1;member 9 1;member 1 0;member 1 0;");
        due("his vote counts", w.worth(0), 0);
        LastCoat u = Checks.told("member 1 1;member 9 0;cold 5;fur 0;");
        u.speaks(0, 1);
        due("the wearer NOW", u.carry(-1), 1);
        due("without the wearer NOW", u.worth(0), -5);
        u.speaks(0, 1);
        due("all others are FROZEN", u.worth(0), 0);
    }

    private static void worthOfNone() {
        LastCoat x = Checks.told("member 9 0;member 9 1;");
        due("worth(0)", x.worth(0), LastCoat.NONE);
        due("worth(1)", x.worth(1), LastCoat.NONE);
        due("worth(2)", x.worth(2), LastCoat.BAD);
        due("worth(-1)", x.worth(-1), LastCoat.BAD);
        due("worth(MIN)", x.worth(Integer.MIN_VALUE), LastCoat.BAD);
        due("worth(MAX)", x.worth(Integer.MAX_VALUE), LastCoat.BAD);
        due("nobody", new LastCoat().worth(0), LastCoat.BAD);
    }

    private static void games() {
        game("", 0, 0, LastCoat.NONE);
        game("", 5, 0, LastCoat.NONE);
        game("member 1 1;", 0, 1, LastCoat.NONE);
        game("member 1 0;", 0, 0, LastCoat.NONE);
        game("member 1 1;", 1, 1, 0);
        game("member 9 1;member 9 1;member 1 0;member 1 0;", 1, 1, 0);
        game("member 9 1;member 2 0;", 1, 0, LastCoat.NONE);
        game("member 9 1;member 2 0;", 2, 0, LastCoat.NONE);
        game("member 9 1;member 2 0;", 3, 0, LastCoat.NONE);
        // 2 is sheltered while 0 speaks: he must let 1 speak
        game("member 9 1;member 9 1;member 1 0;member 3 0;seconds 2 0;", 1, 1, 1);
        // of the two against it only one can be kept warm by their own choice
        game("member 9 1;member 9 1;member 2 0;member 2 0;", 2, 1, 0);
        game("member 9 0;member 9 1;member 1 1;member 9 0;member 2 0;member 9 1;", 1, 0, LastCoat.NONE);
        game("member 9 0;member 9 1;member 1 1;member 1 0;member 9 1;", 1, 1, 1);
        game("member 9 1;member 1 0;coughs 9;", 1, 1, 0);
        // SIDE 1 gets its vote frozen by SIDE 0's turn
        game("member 2 0;member 1 1;member 3 1;", 1, 1, 1);
        game("member 2 0;member 1 1;member 3 1;", 2, 1, 1);
        game("member 2 0;member 1 1;member 2 1;", 1, 1, 1);
        game("member 2 0;member 1 1;member 2 1;", 2, 0, LastCoat.NONE);
    }

    private static void gamesWithPauses() {
        // SIDE 0 has none left: its turns go by as a PAUSE, in which the coat still warms 0
        game("member 1 1;member 1 0;cold 2;fur 1;", 2, 1, 0);
        game("member 1 1;member 1 0;cold 2;fur 0;", 5, 1, 0);
        game("member 1 1;cold 5;", 5, 1, 0);
        // SIDE 1 has none: it can't win any more
        LastCoat x = Checks.told("member 1 1;member 9 0;");
        x.speaks(1, 1);
        due("SIDE 1 is FROZEN", x.game(3, 0), 0);
        due("SIDE 1 is FROZEN", x.game(3, 1), LastCoat.NONE);
        LastCoat y = Checks.told("member 2 1;member 1 1;member 9 1;member 2 0;");
        y.pause(1);
        due("who is FROZEN is not chosen", y.game(1, 1), 0);
        y.speaks(2, 1);
        due("who is FROZEN is not chosen", y.game(2, 1), 2);
        due("NOW's FUR", y.game(5, 0), 1);
    }

    private static void gamesRefused() {
        LastCoat x = Checks.told("member 1 1;");
        due("game(-1, 0)", x.game(-1, 0), LastCoat.BAD);
        due("game(6, 0)", x.game(6, 0), LastCoat.BAD);
        due("game(MIN, 0)", x.game(Integer.MIN_VALUE, 0), LastCoat.BAD);
        due("game(MAX, 1)", x.game(Integer.MAX_VALUE, 1), LastCoat.BAD);
        due("game(0, 2)", x.game(0, 2), LastCoat.BAD);
        due("game(0, -1)", x.game(0, -1), LastCoat.BAD);
        due("game(0, MAX)", x.game(0, Integer.MAX_VALUE), LastCoat.BAD);
    }
}
