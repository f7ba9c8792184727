/**
 * The boundary cases of "3 .." (PLANS, CARRY, SAVE, WORTH, GAME) and of promises 13 to 16, a test
 * for each sentence that names one; the sentence stands above it.
 */
public final class EdgePlanTest {
    private static final Checks CHECKS = new Checks("EdgePlanTest");
    private static final Twins TWINS = new Twins(CHECKS);
    private static final int NONE = LastCoat.NONE;
    private static final int BAD = LastCoat.BAD;
    private static final int LACKING = -5;

    public static void main(String[] args) {
        nothingIsChanged();
        coughsAreNotAsked();
        whoIsFrozenThenDoesNotSpeak();
        theOneAheadAgain();
        plansBeginNow();
        plansOfOneMember();
        carryOfNoughtMinutes();
        carryOfOneToFive();
        carryOfSixIsNone();
        carryTheFewestMinutes();
        carryTheFirstByMembers();
        carryByOne();
        carryOfNobodyAndOfAllFrozen();
        carryAsksMinusOneToAnyGreatness();
        saveOfNoughtMinutes();
        saveOfOneToFive();
        saveTheMostOfAllAndOfOne();
        saveTheFirstOfSeveral();
        saveNone();
        saveAsksMinusOneToAnyGreatness();
        worthOfNought();
        worthOfOneToFour();
        worthWhereNoneIsLeft();
        worthNone();
        worthOfTheWearer();
        worthHeVotesAndFreezes();
        gameOfNoughtMinutes();
        gameOfOneToFive();
        gameFirstWhomItMustChoose();
        gameOfASideThatHasNone();
        gameOfASideThatHasOne();
        gameOfNobody();
        gameTakesWhatNoughtAndOne();
        CHECKS.end();
    }

    private static void due(String call, long got, long want) {
        CHECKS.due(call, got, want);
    }

    /** CARRY's whole answer: the plan, or that there is none. */
    private static void carry(String when, LastCoat x, int... plan) {
        due(when + ": carry(-1)", x.carry(-1), plan.length);
        for (int i = 0; i < plan.length; i++) {
            due(when + ": carry(" + i + ")", x.carry(i), plan[i]);
        }
        for (int i = plan.length; i <= 7; i++) {
            due(when + ": carry(" + i + ")", x.carry(i), LACKING);
        }
        due(when + ": carry(MAX)", x.carry(Integer.MAX_VALUE), LACKING);
        due(when + ": carry(-2)", x.carry(-2), BAD);
    }

    private static void carryNone(String when, LastCoat x) {
        for (int i = -1; i <= 6; i++) {
            due(when + ": carry(" + i + ")", x.carry(i), NONE);
        }
        due(when + ": carry(MAX)", x.carry(Integer.MAX_VALUE), NONE);
        due(when + ": carry(-2)", x.carry(-2), BAD);
    }

    private static void save(String when, LastCoat x, int most, int... plan) {
        int n = plan.length;
        due(when + ": save(" + n + ", -1)", x.save(n, -1), most);
        for (int i = 0; i < n; i++) {
            due(when + ": save(" + n + ", " + i + ")", x.save(n, i), plan[i]);
        }
        for (int i = n; i <= 7; i++) {
            due(when + ": save(" + n + ", " + i + ")", x.save(n, i), LACKING);
        }
        due(when + ": save(" + n + ", MAX)", x.save(n, Integer.MAX_VALUE), LACKING);
        due(when + ": save(" + n + ", -2)", x.save(n, -2), BAD);
    }

    private static void saveNone(String when, LastCoat x, int n) {
        for (int i = -1; i <= 6; i++) {
            due(when + ": save(" + n + ", " + i + ")", x.save(n, i), NONE);
        }
        due(when + ": save(" + n + ", MAX)", x.save(n, Integer.MAX_VALUE), NONE);
        due(when + ": save(" + n + ", -2)", x.save(n, -2), BAD);
    }

    private static void game(String when, LastCoat x, int n, int won, int whom) {
        due(when + ": game(" + n + ", 0)", x.game(n, 0), won);
        due(when + ": game(" + n + ", 1)", x.game(n, 1), whom);
    }

    // "(Nothing is changed"
    private static void nothingIsChanged() {
        Twins.Story[] stories = {x -> { }, Twins::rich, Twins::full, Twins::cold};
        for (Twins.Story story : stories) {
            LastCoat x = new LastCoat();
            LastCoat other = new LastCoat();
            story.tell(x);
            story.tell(other);
            for (int i = -2; i <= 6; i++) {
                x.carry(i);
                x.save(5, i);
                x.save(i, 0);
                x.worth(i);
                x.game(i, 0);
                x.game(i, 1);
                x.fits(i);
            }
            TWINS.same("plans", x, other);
        }
    }

    // "COUGHS are not asked.)"
    private static void coughsAreNotAsked() {
        String text = "member 9 1;member 5 0;member 5 0;member 2 1;";
        LastCoat none = Checks.told(text);
        LastCoat nine = Checks.told(text + "coughs 9;");
        for (int lot = -2; lot <= 2; lot++) {
            nine.lot(lot);
            for (int i = -1; i <= 5; i++) {
                due("carry(" + i + ")", nine.carry(i), none.carry(i));
                due("save(5, " + i + ")", nine.save(5, i), none.save(5, i));
                due("worth(" + i + ")", nine.worth(i), none.worth(i));
                due("game(" + i + ", 0)", nine.game(i, 0), none.game(i, 0));
                due("game(" + i + ", 1)", nine.game(i, 1), none.game(i, 1));
                due("fits(" + i + ")", nine.fits(i), none.fits(i));
            }
            due("THE LOT", nine.lot(0), lot);
        }
    }

    // "who speaks in each one (who is not FROZEN then"
    private static void whoIsFrozenThenDoesNotSpeak() {
        LastCoat x = Checks.told("member 1 0;member 9 1;");
        due("0 could speak", x.fits(1), 2);
        carry("NOW 0 is not FROZEN", x, 1);
        x.speaks(1, 1);
        save("0 is FROZEN", x, 1, 1, 1);
        // behind 1 speaking first, 0 is FROZEN: no plan has him as the second one then
        LastCoat y = Checks.told("member 1 1;member 2 1;member 2 0;member 2 0;cold 1;fur 0;");
        due("plans of one MINUTE", y.fits(1), 4);
        due("plans of two: 4 behind 0, 3 behind each other one", y.fits(2), 13);
        save("one MINUTE", y, 4, 0);
        save("two MINUTES: 0 can't be kept, but two others can", y, 2, 1, 2);
    }

    // "the one ahead, again, too)"
    private static void theOneAheadAgain() {
        carry("again and again", Checks.told("member 1 1;member 3 0;"), 0, 0, 0);
        save("again and again", Checks.told("member 1 1;member 1 0;"), 1, 0, 0, 0, 0, 0);
        LastCoat x = Checks.told("member 1 1;member 3 0;");
        x.speaks(0, 1);
        carry("he who speaks NOW", x, 0, 0);
    }

    // "PLANS of n MINUTES from NOW on": WARMTH, FUR, who is FROZEN are those of NOW
    private static void plansBeginNow() {
        LastCoat x = Checks.told("member 9 1;member 6 0;");
        carryNone("as told", x);
        x.speaks(0, 1);
        carry("a MINUTE later", x, 0, 0, 0, 0, 0);
        x.speaks(0, 4);
        carry("five MINUTES later", x, 0);
        x.speaks(0, 1);
        carry("six MINUTES later", x);
        x.undo();
        carry("UNDONE", x, 0);
        LastCoat y = Checks.told("member 2 1;member 2 1;member 2 0;fur 0;");
        save("FUR 0", y, 1, 0, 0, 0, 0);
        y.lining();
        save("FUR 1", y, 2, 0, 1, 0, 1);
    }

    // the least parliament that there is
    private static void plansOfOneMember() {
        LastCoat pro = Checks.told("member 1 1;cold 5;fur 0;");
        carry("one for it", pro);
        save("one for it", pro, 1, 0, 0, 0, 0, 0);
        due("worth(0)", pro.worth(0), 0);
        game("one for it", pro, 5, 1, 0);
        LastCoat con = Checks.told("member 1 0;cold 5;fur 0;");
        carryNone("one against it", con);
        save("one against it", con, 1, 0, 0, 0, 0, 0);
        due("worth(0)", con.worth(0), NONE);
        game("one against it", con, 5, 0, NONE);
    }

    // "the fewest MINUTES (0 .. 5)": 0
    private static void carryOfNoughtMinutes() {
        carry("carried as it is", Checks.told("member 1 1;"));
        carry("carried as it is", Checks.told("member 1 1;member 1 0;member 1 1;"));
        LastCoat x = Checks.told("member 1 1;member 1 0;");
        carry("in a MINUTE", x, 0);
        x.speaks(0, 1);
        carry("a MINUTE later", x);
    }

    // "the fewest MINUTES (0 .. 5)": 1 .. 5
    private static void carryOfOneToFive() {
        for (int cold = 1; cold <= 5; cold++) {
            for (int warmth = 1; warmth <= Math.min(20, 5 * cold); warmth++) {
                LastCoat x = Checks.told("member 1 1;member " + warmth + " 0;fur 0;cold " + cold + ";");
                carry("WARMTH " + warmth + ", COLD " + cold, x, new int[(warmth + cold - 1) / cold]);
            }
        }
    }

    // "the fewest MINUTES (0 .. 5)"; "NONE": 6 MINUTES are too many, even if they would do
    private static void carryOfSixIsNone() {
        for (int cold = 1; cold <= 3; cold++) {
            int warmth = 5 * cold + 1;
            LastCoat x = Checks.told("member 1 1;member " + warmth + " 0;cold " + cold + ";");
            carryNone("WARMTH " + warmth + ", COLD " + cold, x);
            due("worth(0)", x.worth(0), NONE);
            due("six would do", x.speaks(0, 6), 6);
            due("CARRIED", x.vote(), 1);
        }
        carryNone("COLD 0", Checks.told("member 20 1;member 1 0;cold 0;"));
    }

    // "the fewest MINUTES": fewer ones go ahead of the first by MEMBERS
    private static void carryTheFewestMinutes() {
        LastCoat x = Checks.told("member 9 0;member 9 1;member 1 0;member 1 1;seconds 3 1;seconds 2 0;seconds 0 1;");
        carry("1 shelters 3, and 0 shelters 2", x, 1);
        LastCoat y = Checks.told("member 3 1;member 3 1;member 1 0;member 2 0;seconds 2 0;");
        carry("0 shelters 2", y, 1);
        LastCoat z = Checks.told("member 9 1;member 9 1;member 2 0;member 2 0;seconds 2 0;seconds 3 0;");
        carry("0 shelters both", z, 1, 1);
    }

    // "of several PLANS the first by MEMBERS"
    private static void carryTheFirstByMembers() {
        carry("all six could", Checks.told("member 9 1;member 9 1;member 9 1;member 9 0;member 9 0;member 1 0;"), 0);
        carry("the last alone", Checks.told("member 2 0;member 2 0;member 2 0;member 2 0;member 2 0;member 3 1;"), 5, 5);
        LastCoat x = Checks.told("member 1 1;member 3 1;member 2 0;member 9 0;fur 1;");
        // 1 must have been in the coat never: 0 would be FROZEN without it, and two for it are needed
        carry("0 keeps himself", x, 0, 0);
        LastCoat y = Checks.told("member 2 1;member 2 1;member 3 0;member 9 0;fur 1;");
        carry("0, then 1, then 0", y, 0, 1, 0);
    }

    // "if more .. than": by one, among six, of WARMTHS at their least and greatest
    private static void carryByOne() {
        for (int last = 1; last <= 20; last++) {
            LastCoat x = Checks.told("member 1 0;member 9 0;member 9 0;member 9 1;member 9 1;member " + last + " 1;");
            if (last == 1) {
                carry("the last one must speak", x, 5);
            } else {
                carry("the last one at " + last, x, 1);
            }
        }
        for (int last = 1; last <= 20; last++) {
            LastCoat x = Checks.told("member 9 1;member 9 1;member 9 1;member 20 0;member 20 0;member " + last + " 0;");
            if (last > 5) {
                carryNone("the last one at " + last, x);
            } else {
                carry("the last one at " + last, x, new int[last]);
            }
        }
    }

    // "NONE": nobody is there, all are FROZEN, nobody is for it
    private static void carryOfNobodyAndOfAllFrozen() {
        carryNone("nobody", new LastCoat());
        LastCoat x = Checks.told("member 1 1;member 1 1;member 1 0;");
        carry("all are warm", x);
        x.pause(1);
        carryNone("all are FROZEN", x);
        carryNone("nobody is for it", Checks.told("member 1 0;member 1 0;cold 5;"));
        LastCoat y = Checks.told("member 1 1;member 9 0;");
        y.speaks(1, 1);
        carryNone("who was for it is FROZEN", y);
    }

    // "how many MINUTES (i = -1), who speaks in the i-th (-5: not so many, however great i is)"; "BAD"
    private static void carryAsksMinusOneToAnyGreatness() {
        // 2 needs one MINUTE of the five, 0 would shelter 3
        LastCoat x = Checks.told("member 9 0;member 9 1;member 5 1;member 5 0;fur 0;seconds 3 0;");
        due("carry(MIN)", x.carry(Integer.MIN_VALUE), BAD);
        due("carry(-2)", x.carry(-2), BAD);
        due("carry(-1)", x.carry(-1), 5);
        for (int i = 0; i < 5; i++) {
            due("carry(" + i + ")", x.carry(i), i == 4 ? 2 : 1);
        }
        for (int i = 5; i < 70; i++) {
            due("carry(" + i + ")", x.carry(i), LACKING);
        }
        for (int i = 7; i < 31; i++) {
            due("carry(1 << " + i + ")", x.carry(1 << i), LACKING);
        }
        due("carry(MAX)", x.carry(Integer.MAX_VALUE), LACKING);
    }

    // "SAVE n (0 .. 5)": 0: no MINUTE goes by
    private static void saveOfNoughtMinutes() {
        save("nobody", new LastCoat(), 0);
        for (int members = 1; members <= 6; members++) {
            LastCoat x = Checks.told("member 1 1;".repeat(members));
            save(members + " MEMBERS", x, members);
            x.pause(1);
            save(members + " MEMBERS, FROZEN", x, 0);
        }
        LastCoat y = Checks.told("member 1 1;member 2 0;");
        y.pause(1);
        save("one of two", y, 1);
    }

    // "SAVE n (0 .. 5)": 1 .. 5; 6 is BAD
    private static void saveOfOneToFive() {
        LastCoat x = Checks.told("member 2 1;member 2 0;");
        due("save(-1, -1)", x.save(-1, -1), BAD);
        save("by turns", x, 2);
        save("by turns", x, 2, 0);
        save("by turns", x, 2, 0, 1);
        save("by turns", x, 2, 0, 1, 0);
        save("by turns", x, 2, 0, 1, 0, 1);
        save("by turns", x, 2, 0, 1, 0, 1, 0);
        due("save(6, -1)", x.save(6, -1), BAD);
        due("save(6, 0)", x.save(6, 0), BAD);
    }

    // "the most MEMBERS that can be not FROZEN behind n MINUTES": all six, and the speaker alone
    private static void saveTheMostOfAllAndOfOne() {
        save("nobody loses", Checks.told("member 1 1;".repeat(6) + "cold 0;"), 6, 0, 0, 0, 0, 0);
        save("all lose", Checks.told("member 1 1;".repeat(6)), 1, 0, 0, 0, 0, 0);
        save("all lose at last", Checks.told("member 5 1;".repeat(5) + "member 20 1;cold 5;"), 2, 0);
        for (int n = 1; n <= 5; n++) {
            // behind n MINUTES those of WARMTH n are FROZEN, those of n + 1 are not
            LastCoat x = Checks.told("member 9 1;member " + n + " 1;member " + (n + 1) + " 1;fur 0;");
            int[] plan = new int[n];
            plan[n - 1] = 1;
            save("WARMTH " + n + " and more", x, 3, plan);
            // two who need a MINUTE each: there is no room for both in one
            LastCoat y = Checks.told("member 9 1;member " + n + " 1;member " + n + " 1;fur 0;");
            plan[n - 1] = n == 1 ? 1 : 2;
            plan[Math.max(0, n - 2)] = 1;
            save("twice WARMTH " + n, y, n == 1 ? 2 : 3, plan);
        }
    }

    // "of several PLANS the first"
    private static void saveTheFirstOfSeveral() {
        save("each is as good", Checks.told("member 9 1;".repeat(6)), 6, 0, 0, 0, 0, 0);
        save("0 first, though 1 is it who is saved", Checks.told("member 9 1;member 2 1;"), 2, 0, 1);
        save("5 alone saves all", Checks.told("member 1 1;".repeat(5) + "member 9 1;seconds 0 5;seconds 1 5;"
            + "seconds 2 5;seconds 3 5;seconds 4 5;"), 6, 5, 5, 5, 5, 5);
    }

    // "NONE: there is no PLAN (n 1 or more, and all get FROZEN ahead)"
    private static void saveNone() {
        for (int n = 1; n <= 5; n++) {
            saveNone("nobody", new LastCoat(), n);
            LastCoat x = Checks.told("member 1 1;member 2 1;");
            x.pause(1);
            due("one is left: save(" + n + ", -1)", x.save(n, -1), 1);
            due("one is left: save(" + n + ", 0)", x.save(n, 0), 1);
            x.pause(1);
            saveNone("all are FROZEN", x, n);
            save("all are FROZEN", x, 0);
        }
    }

    // "how many (i = -1), who speaks in the i-th MINUTE (-5: not so many, however great i is)"; "BAD"
    private static void saveAsksMinusOneToAnyGreatness() {
        LastCoat x = Checks.told("member 9 0;member 9 1;member 5 0;");
        for (int n = 0; n <= 5; n++) {
            due("save(" + n + ", MIN)", x.save(n, Integer.MIN_VALUE), BAD);
            due("save(" + n + ", -2)", x.save(n, -2), BAD);
            due("save(" + n + ", -1)", x.save(n, -1), 3);
            for (int i = 0; i < 70; i++) {
                due("save(" + n + ", " + i + ")", x.save(n, i), i >= n ? LACKING : n == 5 && i == 4 ? 2 : 0);
            }
            for (int i = 7; i < 31; i++) {
                due("save(" + n + ", 1 << " + i + ")", x.save(n, 1 << i), LACKING);
            }
            due("save(" + n + ", MAX)", x.save(n, Integer.MAX_VALUE), LACKING);
        }
    }

    // "WORTH: how many MINUTES more CARRY needs": none more
    private static void worthOfNought() {
        LastCoat x = Checks.told("member 1 1;member 1 1;member 1 0;");
        for (int m = -1; m <= 3; m++) {
            due("carried as it is, worth(" + m + ")", x.worth(m), m >= 0 && m < 3 ? 0 : BAD);
        }
        LastCoat y = Checks.told("member 9 1;member 9 1;member 2 0;member 2 0;");
        for (int m = 0; m < 4; m++) {
            due("the other one can, worth(" + m + ")", y.worth(m), 0);
        }
        LastCoat z = Checks.told("member 1 1;member 9 1;member 3 0;member 9 0;");
        z.speaks(1, 1);
        due("one against two: it takes both", z.carry(-1), NONE);
        LastCoat u = Checks.told("member 1 1;member 9 1;member 3 0;");
        u.speaks(1, 1);
        due("who is FROZEN", u.worth(0), 0);
        due("who alone can", u.worth(1), LACKING);
    }

    // the same: 1 .. 4 MINUTES more
    private static void worthOfOneToFour() {
        for (int warmth = 1; warmth <= 6; warmth++) {
            // while 1 speaks 2 is sheltered, so that 3 must be FROZEN instead
            LastCoat x = Checks.told("member 9 1;member 9 1;member 1 0;member " + warmth + " 0;seconds 2 1;seconds 2 3;");
            due("with 0", x.carry(-1), 1);
            due("without 0, WARMTH " + warmth, x.worth(0), warmth <= 5 ? warmth - 1 : LACKING);
        }
    }

    // "-5: it has none then"
    private static void worthWhereNoneIsLeft() {
        LastCoat x = Checks.told("member 9 1;member 5 0;");
        due("with 0", x.carry(-1), 5);
        due("without him", x.worth(0), LACKING);
        due("without the other", x.worth(1), 0);
        LastCoat y = Checks.told("member 1 1;member 1 0;");
        due("without him", y.worth(0), LACKING);
        y.speaks(0, 1);
        due("he alone is left, and it is carried", y.worth(0), 0);
    }

    // "NONE: CARRY has none as it is."; BAD ahead of it
    private static void worthNone() {
        LastCoat x = Checks.told("member 9 1;member 6 0;");
        due("worth(0)", x.worth(0), NONE);
        due("worth(1)", x.worth(1), NONE);
        due("worth(2)", x.worth(2), BAD);
        due("worth(-1)", x.worth(-1), BAD);
        x.speaks(0, 1);
        due("a MINUTE later worth(0)", x.worth(0), LACKING);
        due("a MINUTE later worth(1)", x.worth(1), 0);
        due("nobody", new LastCoat().worth(0), BAD);
        LastCoat y = Checks.told("member 1 1;");
        y.pause(1);
        due("all are FROZEN", y.worth(0), NONE);
    }

    // "(who wears the COAT NOW goes on wearing it till another one speaks"
    private static void worthOfTheWearer() {
        LastCoat x = Checks.told("member 9 1;member 2 0;member 9 1;member 9 0;");
        due("the coat hangs", x.worth(0), 0);
        x.speaks(0, 1);
        due("with 0", x.carry(-1), 1);
        due("without 0, who wears it: 2 speaks", x.worth(0), 0);
        LastCoat y = Checks.told("member 9 1;member 2 0;");
        y.speaks(0, 1);
        due("only 1 could take it from him", y.worth(0), LACKING);
        // his seconder is warm only till another one speaks
        LastCoat z = Checks.told("member 9 1;member 1 0;member 9 1;member 9 0;seconds 1 0;");
        z.speaks(0, 3);
        due("2 takes it from him", z.carry(-1), 1);
        due("so that he is worth nothing", z.worth(0), 0);
        due("and 2: 3, who is against it, can", z.worth(2), 0);
        due("and 3", z.worth(3), 0);
    }

    // "he votes, freezes as ever)"
    private static void worthHeVotesAndFreezes() {
        LastCoat votes = Checks.told("member 9 1;member 9 1;member 1 0;member 9 0;");
        due("with 0", votes.carry(-1), 1);
        due("without 0, who votes yet", votes.worth(0), 0);
        LastCoat freezes = Checks.told("member 1 1;member 9 1;member 1 0;member 9 0;seconds 2 1;");
        due("0 keeps himself", freezes.carry(-1), 1);
        due("without 0, who is FROZEN then", freezes.worth(0), LACKING);
        LastCoat con = Checks.told("member 9 1;member 1 0;");
        due("who is against it freezes though he is not to speak", con.worth(1), 0);
    }

    // "GAME of n (0 .. 5) MINUTES"; "NONE (n 0"
    private static void gameOfNoughtMinutes() {
        game("carried", Checks.told("member 1 1;"), 0, 1, NONE);
        game("not carried", Checks.told("member 1 0;"), 0, 0, NONE);
        game("as many", Checks.told("member 1 0;member 1 1;"), 0, 0, NONE);
        game("nobody", new LastCoat(), 0, 0, NONE);
        game("carried, and one MINUTE", Checks.told("member 1 1;"), 1, 1, 0);
    }

    // "GAME of n (0 .. 5) MINUTES"; 6 is BAD; "SIDES choose by turns, SIDE 1 first"
    private static void gameOfOneToFive() {
        for (int n = 0; n <= 5; n++) {
            LastCoat x = Checks.told("member 5 1;member 9 1;member 9 0;");
            game("two to one", x, n, 1, n == 0 ? NONE : 0);
            LastCoat y = Checks.told("member 9 1;member " + Math.max(1, n) + " 0;fur 0;");
            // of n MINUTES SIDE 0 speaks in the second, the fourth: only one MINUTE freezes it
            game("one to one", y, n, n == 1 ? 1 : 0, n == 1 ? 0 : NONE);
        }
        LastCoat x = Checks.told("member 5 1;member 9 1;member 9 0;");
        game("-1", x, -1, BAD, BAD);
        game("6", x, 6, BAD, BAD);
        // SIDE 1 has the first, third, fifth MINUTE: 2 of WARMTH 3 comes to 2, 2, 1, 1, 0
        LastCoat y = Checks.told("member 9 1;member 9 1;member 9 0;member 3 0;fur 0;seconds 3 2;seconds 2 3;seconds 3 2;");
        int[] won = {0, 0, 0, 0, 0, 1};
        for (int n = 0; n <= 5; n++) {
            game("WARMTH 3 and its seconder", y, n, won[n], won[n] == 1 ? 0 : NONE);
        }
    }

    // "the first one (by numbers) whom it must choose"; "not WON": NONE
    private static void gameFirstWhomItMustChoose() {
        game("either of both", Checks.told("member 9 0;member 9 1;member 9 1;"), 1, 1, 1);
        game("only the second", Checks.told("member 9 1;member 1 1;member 9 0;"), 1, 1, 1);
        game("only the first", Checks.told("member 1 1;member 9 1;member 9 0;"), 1, 1, 0);
        game("the last one of six", Checks.told("member 9 0;member 9 0;member 9 0;member 9 1;member 9 1;member 1 1;"), 1,
            0, NONE);
        game("the last one of six", Checks.told("member 9 0;member 9 0;member 9 1;member 9 1;member 9 1;member 1 1;"), 1,
            1, 2);
        game("the last one alone", Checks.told("member 9 0;member 9 0;member 1 0;member 9 1;member 9 1;member 1 1;"), 1,
            1, 5);
        // who is against it may not be chosen, though he would do
        game("0 would do", Checks.told("member 9 0;member 1 0;member 9 1;member 9 1;seconds 1 2;seconds 1 3;"), 1, 0, NONE);
        LastCoat y = Checks.told("member 2 1;member 9 1;member 9 1;member 9 0;");
        y.pause(2);
        game("0 is FROZEN", y, 1, 1, 1);
    }

    // "a SIDE that has none lets a MINUTE go by as a PAUSE"
    private static void gameOfASideThatHasNone() {
        for (int n = 1; n <= 5; n++) {
            game("nobody is against it", Checks.told("member 1 1;cold 5;fur 0;"), n, 1, 0);
            game("nobody is for it", Checks.told("member 1 0;cold 5;fur 0;"), n, 0, NONE);
            game("who is against it is soon FROZEN", Checks.told("member 1 1;member 1 0;fur 0;"), n, 1, 0);
            LastCoat x = Checks.told("member 1 1;member 9 0;");
            x.speaks(1, 1);
            game("who was for it is FROZEN", x, n, 0, NONE);
            // in the PAUSE 1 freezes, who does not wear the coat, and he is not needed any more
            game("two for it", Checks.told("member 2 1;member 2 1;member 1 0;fur 0;"), n, 1, 0);
        }
    }

    // "SIDES choose by turns .. one of their MEMBERS": who has one may not let a MINUTE go by
    private static void gameOfASideThatHasOne() {
        // behind a PAUSE 1 would be FROZEN, but 0 must speak, whom he seconds
        LastCoat x = Checks.told("member 9 1;member 1 0;seconds 1 0;");
        game("SIDE 1 must choose", x, 1, 0, NONE);
        due("a PAUSE", x.pause(1), 1);
        due("would do", x.vote(), 1);
        // SIDE 0 has 5 alone left, whom all who are for it second
        LastCoat y = Checks.told("member 2 1;member 2 1;member 2 1;member 1 0;member 1 0;member 9 0;seconds 0 5;"
            + "seconds 1 5;seconds 2 5;fur 0;");
        game("SIDE 0 must choose", y, 2, 1, 0);
        y.speaks(0, 1);
        due("a PAUSE", y.pause(1), 4);
        due("would do", y.vote(), 0);
    }

    // "NONE (.. nobody"
    private static void gameOfNobody() {
        for (int n = 0; n <= 5; n++) {
            game("nobody is there", new LastCoat(), n, 0, NONE);
            LastCoat x = Checks.told("member 1 1;member 1 0;");
            x.pause(1);
            game("all are FROZEN", x, n, 0, NONE);
        }
    }

    // "WON (what = 0: 1, 0), whom to choose (1; NONE). BAD."
    private static void gameTakesWhatNoughtAndOne() {
        LastCoat x = Checks.told("member 1 1;");
        for (int n = 0; n <= 5; n++) {
            due("game(" + n + ", -1)", x.game(n, -1), BAD);
            due("game(" + n + ", 0)", x.game(n, 0), 1);
            due("game(" + n + ", 1)", x.game(n, 1), n == 0 ? NONE : 0);
            due("game(" + n + ", 2)", x.game(n, 2), BAD);
        }
    }
}
