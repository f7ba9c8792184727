/**
 * The boundary cases of "2 .." (the COAT, FROZEN, SPEECHES, THE LOT, LINED, UNDONE) and of promises
 * 7 to 12, a test for each sentence that names one; the sentence stands above it.
 */
public final class EdgeSpeechTest {
    private static final Checks CHECKS = new Checks("EdgeSpeechTest");
    private static final Twins TWINS = new Twins(CHECKS);
    private static final int TIMES = 1103515245;
    private static final int MORE = 12345;
    private static final int MIN = Integer.MIN_VALUE;
    private static final int MAX = Integer.MAX_VALUE;

    public static void main(String[] args) {
        theCoatHangsAtFirst();
        theWearerGainsTwentyAtMost();
        whoDoesNotWearItLoses();
        warmthIsNeverLessThanNought();
        eachHasHisOwnWarmth();
        frozenAtNoughtAlone();
        theFrozenGainAndLoseNothing();
        theFrozenCannotSpeak();
        theFrozenDoNotVote();
        secondersLoseNothing();
        nobodyIsSecondedWhileTheCoatHangs();
        speechesOfOneToNine();
        speechesOfEachMember();
        theCoatIsTakenAtOnce();
        theLotGoesOnAheadOfEachButTheFirst();
        theLotWrapsAround();
        theDrawIsUpper16BitsFromNoughtOn();
        lessThanCoughsEndsIt();
        aSpeechEndsAtItsFirstCough();
        nobodyCoughsInAPause();
        pausesOfOneToNine();
        aPauseLeavesTheCoat();
        aPauseAnswersWhoIsFrozenThen();
        linedUpToFive();
        carriedByMoreThanAgainst();
        carriedByNobody();
        tenAreKnown();
        olderOnesAreLost();
        undoneOneByOne();
        undoneWasWhatWasNotRefused();
        undoneLeavesTheLot();
        undoneTakesASpeechCutShort();
        undoOfNone();
        lotBecomesAnyNumber();
        CHECKS.end();
    }

    private static void due(String call, long got, long want) {
        CHECKS.due(call, got, want);
    }

    private static void warmths(String when, LastCoat x, int... want) {
        for (int m = 0; m < want.length; m++) {
            due(when + ": WARMTH of " + m, x.member(m, 0), want[m]);
        }
    }

    private static int goneOn(int lot) {
        return lot * TIMES + MORE;
    }

    /** The LOT that becomes this one when it goes on. */
    private static int aheadOf(int lot) {
        int inverse = TIMES;
        for (int i = 0; i < 5; i++) {
            inverse *= 2 - TIMES * inverse;
        }
        return (lot - MORE) * inverse;
    }

    // "Nobody wears the COAT at first; it hangs."
    private static void theCoatHangsAtFirst() {
        due("a new object", new LastCoat().told(3), LastCoat.NONE);
        LastCoat x = Checks.told("member 5 1;member 6 0;cold 2;fur 5;");
        due("told", x.told(3), LastCoat.NONE);
        due("pause(1)", x.pause(1), 0);
        warmths("it hangs", x, 3, 4);
        due("it hangs yet", x.told(3), LastCoat.NONE);
        x.speaks(0, 1);
        due("the first one, by number 0", x.told(3), 0);
        due("told anew", Checks.house(x, "member 5 1;"), 1);
        due("it hangs again", x.told(3), LastCoat.NONE);
    }

    // "its wearer gains FUR"; "what its wearer gains (20 is the most)"
    private static void theWearerGainsTwentyAtMost() {
        for (int fur = 0; fur <= 5; fur++) {
            for (int warmth = 13; warmth <= 20; warmth++) {
                LastCoat x = Checks.told("member " + warmth + " 1;fur " + fur + ";");
                x.speaks(0, 1);
                due("WARMTH " + warmth + ", FUR " + fur, x.member(0, 0), Math.min(20, warmth + fur));
                x.pause(9);
                due("and a PAUSE of 9", x.member(0, 0), Math.min(20, warmth + 10 * fur));
            }
        }
    }

    // "each other one who is not FROZEN loses COLD"
    private static void whoDoesNotWearItLoses() {
        LastCoat x = Checks.told(Twins.SIX + "cold 3;fur 0;");
        x.speaks(1, 1);
        warmths("1 spoke", x, 6, 8, 4, 3, 2, 1);
        x.speaks(0, 1);
        warmths("0 spoke", x, 6, 5, 1, 0, 0, 0);
        LastCoat none = Checks.told(Twins.SIX + "cold 0;fur 0;");
        none.speaks(5, 9);
        none.pause(9);
        warmths("COLD 0", none, 9, 8, 7, 6, 5, 4);
    }

    // "whose WARMTH comes to 0 is FROZEN (WARMTH is never less)"
    private static void warmthIsNeverLessThanNought() {
        for (int cold = 0; cold <= 5; cold++) {
            for (int warmth = 1; warmth <= 7; warmth++) {
                LastCoat x = Checks.told("member " + warmth + " 1;cold " + cold + ";");
                int left = Math.max(0, warmth - cold);
                due("WARMTH " + warmth + ", COLD " + cold, x.pause(1), left == 0 ? 1 : 0);
                due("what is left", x.member(0, 0), left);
                due("FROZEN", x.member(0, 2), left == 0 ? 1 : 0);
                due("FROZEN, as bits", x.told(5), left == 0 ? 1 : 0);
                x.pause(9);
                due("behind ten MINUTES", x.member(0, 0), Math.max(0, warmth - 10 * cold));
            }
        }
    }

    // WARMTH 0 .. 20, of each of six, whatever the others' is
    private static void eachHasHisOwnWarmth() {
        for (int m = 0; m < 6; m++) {
            for (int cold = 0; cold <= 5; cold++) {
                for (int his = 1; his <= 20; his++) {
                    int others = 21 - his;
                    String before = ("member " + others + " 0;").repeat(m);
                    String behind = ("member " + others + " 0;").repeat(5 - m);
                    LastCoat x = Checks.told(before + "member " + his + " 1;" + behind + "cold " + cold + ";fur 3;");
                    x.pause(1);
                    int left = Math.max(0, his - cold);
                    int leftToOthers = Math.max(0, others - cold);
                    each("a PAUSE, COLD " + cold, x, m, left, leftToOthers);
                    int spoken = x.speaks(m, 2);
                    due("speaks(" + m + ", 2), WARMTH " + left, spoken, left == 0 ? LastCoat.STATE : 2);
                    each("a SPEECH, COLD " + cold, x, m, left == 0 ? 0 : Math.min(20, left + 6),
                        left == 0 ? leftToOthers : Math.max(0, leftToOthers - 2 * cold));
                }
            }
        }
    }

    private static void each(String when, LastCoat x, int m, int his, int others) {
        for (int i = 0; i < 6; i++) {
            due(when + ": WARMTH of " + i, x.member(i, 0), i == m ? his : others);
        }
    }

    // "whose WARMTH comes to 0 is FROZEN": at 1 he is not
    private static void frozenAtNoughtAlone() {
        LastCoat x = Checks.told("member 2 1;member 3 1;");
        x.pause(1);
        due("at 1", x.member(0, 2), 0);
        due("at 1, speaks", x.speaks(0, 1), 1);
        x.undo();
        due("one more", x.pause(1), 1);
        due("at 0", x.member(0, 2), 1);
        due("at 0, speaks", x.speaks(0, 1), LastCoat.STATE);
        due("the other at 1", x.member(1, 2), 0);
        due("he speaks", x.speaks(1, 1), 1);
    }

    // "Who is FROZEN gains nothing, loses nothing"
    private static void theFrozenGainAndLoseNothing() {
        LastCoat x = Checks.told("member 1 1;member 9 0;seconds 0 1;seconds 1 0;cold 1;fur 5;");
        due("pause(1)", x.pause(1), 1);
        x.speaks(1, 9);
        warmths("a FROZEN one who seconds the wearer", x, 0, 20);
        x.pause(9);
        warmths("longer", x, 0, 20);
        due("he is FROZEN yet", x.told(5), 1);
        LastCoat y = Checks.told("member 1 1;cold 5;fur 5;");
        y.pause(9);
        due("lost no more than all", y.member(0, 0), 0);
    }

    // "can't speak"; "STATE: he is FROZEN."
    private static void theFrozenCannotSpeak() {
        TWINS.unchanged("speaks(0, 1)", EdgeSpeechTest::zeroIsFrozen, x -> x.speaks(0, 1), LastCoat.STATE);
        TWINS.unchanged("speaks(0, 9)", EdgeSpeechTest::zeroIsFrozen, x -> x.speaks(0, 9), LastCoat.STATE);
        LastCoat x = new LastCoat();
        zeroIsFrozen(x);
        due("undo() thaws him", x.undo(), 0);
        due("speaks(0, 1)", x.speaks(0, 1), 1);
    }

    private static void zeroIsFrozen(LastCoat x) {
        Checks.house(x, "member 2 1;member 9 0;");
        x.speaks(1, 2);
    }

    // "can't .. vote"
    private static void theFrozenDoNotVote() {
        LastCoat x = Checks.told("member 2 0;member 9 1;member 2 1;");
        due("two to one", x.vote(), 1);
        x.speaks(1, 1);
        due("two to one", x.vote(), 1);
        x.speaks(0, 1);
        due("one and one: 2 is FROZEN", x.vote(), 0);
        LastCoat y = Checks.told("member 1 0;member 9 1;");
        due("one and one", y.vote(), 0);
        y.speaks(1, 1);
        due("one alone", y.vote(), 1);
    }

    // "A seconds B: while B wears the COAT, A loses nothing."
    private static void secondersLoseNothing() {
        LastCoat x = Checks.told("member 9 1;member 9 0;member 9 0;seconds 1 0;cold 2;fur 0;");
        x.speaks(0, 1);
        warmths("1 seconds 0, who speaks", x, 9, 9, 7);
        x.pause(1);
        warmths("and in a PAUSE, in the coat", x, 9, 9, 5);
        x.speaks(1, 1);
        warmths("0 does not second 1", x, 7, 9, 3);
        x.speaks(2, 1);
        warmths("1 does not second 2", x, 5, 7, 3);
        LastCoat all = Checks.told(Twins.ALL);
        all.speaks(0, 9);
        warmths("all five second 0", all, 18, 8, 7, 6, 5, 4);
        all.speaks(5, 1);
        warmths("0 alone seconds 5", all, 18, 7, 6, 5, 4, 5);
    }

    // "while B wears the COAT": while it hangs, nobody does
    private static void nobodyIsSecondedWhileTheCoatHangs() {
        LastCoat x = Checks.told("member 9 1;member 9 0;seconds 1 0;seconds 0 1;cold 2;");
        x.pause(1);
        warmths("it hangs", x, 7, 7);
        LastCoat all = Checks.told(Twins.ALL);
        all.pause(1);
        warmths("it hangs", all, 8, 7, 6, 5, 4, 3);
    }

    // "A SPEECH (1 .. 9): how many MINUTES it was."
    private static void speechesOfOneToNine() {
        for (int n = 0; n <= 10; n++) {
            LastCoat x = Checks.told("member 5 1;member 20 0;");
            boolean taken = n >= 1 && n <= 9;
            due("speaks(0, " + n + ")", x.speaks(0, n), taken ? n : LastCoat.BAD);
            due("MINUTES", x.told(4), taken ? n : 0);
            warmths("speaks(0, " + n + ")", x, taken ? 5 + n : 5, taken ? 20 - n : 20);
            due("the coat", x.told(3), taken ? 0 : LastCoat.NONE);
            due("UNDONE", x.count(3), taken ? 1 : 0);
        }
    }

    // "BAD": no such MEMBER; the last one that there is
    private static void speechesOfEachMember() {
        for (int members = 0; members <= 6; members++) {
            LastCoat x = Checks.told("member 20 1;".repeat(members));
            for (int m = -1; m <= 6; m++) {
                boolean there = m >= 0 && m < members;
                due(members + " MEMBERS, speaks(" + m + ", 1)", x.speaks(m, 1), there ? 1 : LastCoat.BAD);
                if (there) {
                    due("the coat", x.told(3), m);
                }
            }
        }
    }

    // "he takes the COAT": ahead of the first MINUTE, of who wore it, of himself, too
    private static void theCoatIsTakenAtOnce() {
        LastCoat x = Checks.told("member 5 1;member 5 0;fur 3;cold 2;");
        x.speaks(0, 1);
        warmths("0", x, 8, 3);
        x.speaks(1, 1);
        warmths("1", x, 6, 6);
        x.speaks(1, 1);
        warmths("1 again", x, 4, 9);
        due("the coat", x.told(3), 1);
    }

    // "ahead of each one but the first THE LOT goes on"
    private static void theLotGoesOnAheadOfEachButTheFirst() {
        for (int n = 1; n <= 9; n++) {
            LastCoat x = Checks.told("member 5 1;");
            x.lot(31);
            due("speaks(0, " + n + ")", x.speaks(0, n), n);
            int lot = 31;
            for (int i = 1; i < n; i++) {
                lot = goneOn(lot);
            }
            due("THE LOT behind " + n, x.lot(0), lot);
        }
        LastCoat x = Checks.told("member 5 1;");
        x.speaks(0, 2);
        due("1 at first, gone on once", x.lot(0), 1103527590);
    }

    // "(times 1103515245 and 12345, wrapped"
    private static void theLotWrapsAround() {
        for (int lot : new int[] {0, 1, 2, -1, MAX, MIN, MAX - 1, MIN + 1, 0x10000, 0xFFFF}) {
            LastCoat x = Checks.told("member 5 1;");
            x.lot(lot);
            x.speaks(0, 2);
            long wide = (lot * 1103515245L + 12345L) & 0xFFFFFFFFL;
            due("THE LOT behind " + lot, x.lot(0), wide >= 0x80000000L ? wide - 0x100000000L : wide);
        }
        for (int lot : new int[] {0, 1, -1, MAX, MIN}) {
            LastCoat x = Checks.told("member 5 1;");
            x.lot(aheadOf(lot));
            x.speaks(0, 2);
            due("THE LOT comes to " + lot, x.lot(0), lot);
        }
    }

    // "DRAW: its upper 16 bits, as a number from 0 on, left over by 10"
    private static void theDrawIsUpper16BitsFromNoughtOn() {
        draws(0x00000000, 0);
        draws(0x0000FFFF, 0);
        draws(0x00010000, 1);
        draws(0x00090000, 9);
        draws(0x0009FFFF, 9);
        draws(0x000A0000, 0);
        draws(0x7FFFFFFF, 7);
        draws(0x80000000, 8);
        draws(0x80010000, 9);
        draws(0x80020000, 0);
        draws(0xFFFF0000, 5);
        draws(0xFFFFFFFF, 5);
        draws(0xFFFE0000, 4);
    }

    /** Of all COUGHS that there are, those above the DRAW end the speech, the others do not. */
    private static void draws(int lot, int draw) {
        for (int coughs = 0; coughs <= 9; coughs++) {
            LastCoat x = Checks.told("member 5 1;coughs " + coughs + ";");
            x.lot(aheadOf(lot));
            due("coughs " + coughs + ", LOT to come " + lot, x.speaks(0, 2), draw < coughs ? 1 : 2);
            due("THE LOT", x.lot(0), lot);
        }
    }

    // "less than COUGHS: it ends there": COUGHS 0 end none, COUGHS 9 not that of DRAW 9
    private static void lessThanCoughsEndsIt() {
        LastCoat never = Checks.told("member 5 1;coughs 0;");
        for (int lot = 0; lot < 100; lot++) {
            never.lot(lot * 7654321);
            due("coughs 0, lot " + lot * 7654321, never.speaks(0, 9), 9);
        }
        for (int draw = 0; draw <= 9; draw++) {
            LastCoat x = Checks.told("member 5 1;coughs 9;");
            x.lot(aheadOf(draw << 16));
            due("coughs 9, DRAW " + draw, x.speaks(0, 2), draw < 9 ? 1 : 2);
        }
    }

    // "it ends there": the MINUTE ahead of which he coughs is none; THE LOT goes on no more
    private static void aSpeechEndsAtItsFirstCough() {
        for (int lot = -50; lot < 50; lot++) {
            int seed = lot * 424242421;
            LastCoat x = Checks.told("member 5 1;member 20 0;coughs 4;fur 0;");
            x.lot(seed);
            int then = seed;
            int minutes = 0;
            for (int n = 1; n <= 9 && minutes == 0; n++) {
                then = n == 9 ? then : goneOn(then);
                minutes = n == 9 || (then >>> 16) % 10 < 4 ? n : 0;
            }
            due("speaks(0, 9), lot " + seed, x.speaks(0, 9), minutes);
            due("MINUTES", x.told(4), minutes);
            due("WARMTH of the other", x.member(1, 0), 20 - minutes);
            due("the coat", x.told(3), 0);
            due("UNDONE", x.count(3), 1);
            due("THE LOT", x.lot(0), then);
        }
    }

    // "nobody coughs"
    private static void nobodyCoughsInAPause() {
        LastCoat x = Checks.told("member 20 1;coughs 9;");
        for (int n = 1; n <= 9; n++) {
            x.lot(n);
            int before = x.told(4);
            x.pause(n);
            due("pause(" + n + ")", x.told(4) - before, n);
            due("THE LOT", x.lot(0), n);
        }
    }

    // "A PAUSE (1 .. 9)"
    private static void pausesOfOneToNine() {
        for (int n = 0; n <= 10; n++) {
            LastCoat x = Checks.told("member 20 1;");
            boolean taken = n >= 1 && n <= 9;
            due("pause(" + n + ")", x.pause(n), taken ? 0 : LastCoat.BAD);
            due("MINUTES", x.told(4), taken ? n : 0);
            due("WARMTH", x.member(0, 0), taken ? 20 - n : 20);
            due("UNDONE", x.count(3), taken ? 1 : 0);
        }
    }

    // "the COAT stays where it is (its wearer gains as ever)"
    private static void aPauseLeavesTheCoat() {
        LastCoat x = Checks.told("member 5 1;member 20 0;fur 2;");
        x.pause(1);
        due("it hangs", x.told(3), LastCoat.NONE);
        warmths("it hangs", x, 4, 19);
        x.speaks(0, 1);
        x.pause(3);
        due("0 wears it", x.told(3), 0);
        warmths("0 wears it", x, 12, 15);
        due("nobody, pause(9)", new LastCoat().pause(9), 0);
    }

    // "how many are FROZEN then": then, not ahead of it; none, all
    private static void aPauseAnswersWhoIsFrozenThen() {
        LastCoat x = Checks.told("member 1 1;member 2 1;member 3 1;member 4 1;member 5 1;member 6 1;");
        for (int frozen = 1; frozen <= 6; frozen++) {
            due("pause(1) for the " + frozen + ". time", x.pause(1), frozen);
        }
        due("all six are yet", x.pause(9), 6);
        due("none", Checks.told("member 10 1;").pause(9), 0);
        due("one", Checks.told("member 9 1;").pause(9), 1);
    }

    // "LINED: FUR is 1 more (5 at most)"; "LINED: FUR. STATE: it is 5."
    private static void linedUpToFive() {
        for (int fur = 0; fur <= 5; fur++) {
            LastCoat x = Checks.told("member 1 1;fur " + fur + ";");
            for (int now = fur + 1; now <= 5; now++) {
                due("lining() at " + (now - 1), x.lining(), now);
                due("FUR NOW", x.told(1), now);
            }
            due("lining() at 5", x.lining(), LastCoat.STATE);
            due("FUR NOW", x.told(1), 5);
            due("UNDONE", x.count(3), 5 - fur);
            due("no MINUTE went by", x.told(4), 0);
            due("the coat hangs", x.told(3), LastCoat.NONE);
            x.speaks(0, 1);
            due("it warms by 5", x.member(0, 0), 6);
        }
        TWINS.unchanged("lining() at 5", x -> {
            Checks.house(x, "member 1 1;fur 4;");
            x.lining();
        }, LastCoat::lining, LastCoat.STATE);
    }

    // "The MOTION is CARRIED, if more who are for it than against it are not FROZEN."
    private static void carriedByMoreThanAgainst() {
        for (int members = 1; members <= 6; members++) {
            for (int sides = 0; sides < 1 << members; sides++) {
                StringBuilder text = new StringBuilder();
                for (int m = 0; m < members; m++) {
                    text.append("member 1 ").append(sides >> m & 1).append(';');
                }
                int pro = Integer.bitCount(sides);
                due("vote() of " + text, Checks.told(text.toString()).vote(), pro > members - pro ? 1 : 0);
            }
        }
    }

    // the same, where nobody is there, all are FROZEN
    private static void carriedByNobody() {
        due("nobody", new LastCoat().vote(), 0);
        LastCoat x = Checks.told("member 1 1;member 1 1;");
        due("two for it", x.vote(), 1);
        x.pause(1);
        due("all are FROZEN", x.vote(), 0);
        x.undo();
        due("thawed", x.vote(), 1);
    }

    // "(10 are known, older ones are lost"; "how many more may be"
    private static void tenAreKnown() {
        for (int done = 0; done <= 12; done++) {
            LastCoat x = Checks.told("member 20 1;cold 1;");
            for (int i = 0; i < done; i++) {
                x.pause(1);
            }
            int known = Math.min(10, done);
            due(done + " done, count(3)", x.count(3), known);
            for (int more = known - 1; more >= 0; more--) {
                due(done + " done, undo()", x.undo(), more);
                due("count(3)", x.count(3), more);
                due("MINUTES", x.told(4), done - known + more);
                due("WARMTH", x.member(0, 0), 20 - (done - known + more));
            }
            due(done + " done, undo() of no more", x.undo(), LastCoat.STATE);
            due("MINUTES", x.told(4), done - known);
        }
    }

    // "older ones are lost": whichever of the three they were
    private static void olderOnesAreLost() {
        LastCoat x = Checks.told("member 20 1;member 20 0;fur 0;");
        x.lining();
        for (int i = 0; i < 5; i++) {
            x.speaks(i % 2, 1);
            x.pause(1);
        }
        due("eleven done", x.count(3), 10);
        for (int more = 9; more >= 0; more--) {
            due("undo()", x.undo(), more);
            due("MINUTES", x.told(4), more);
            due("the coat", x.told(3), more == 0 ? LastCoat.NONE : (more - 1) / 2 % 2);
        }
        due("the lining is lost", x.undo(), LastCoat.STATE);
        due("it stays", x.told(1), 1);
        // there is room again
        x.lining();
        due("the next one is known", x.count(3), 1);
        due("undo()", x.undo(), 0);
        due("FUR", x.told(1), 1);
    }

    // "UNDONE: the last SPEECH, PAUSE or LINING"
    private static void undoneOneByOne() {
        LastCoat x = Checks.told("member 3 1;member 9 0;cold 2;fur 1;");
        x.speaks(1, 1);
        x.lining();
        x.pause(1);
        x.speaks(1, 2);
        warmths("behind all", x, 0, 16);
        due("the second speech", x.undo(), 3);
        warmths("behind the pause", x, 0, 12);
        due("the pause", x.undo(), 2);
        warmths("behind the lining", x, 1, 10);
        due("FUR", x.told(1), 2);
        due("the lining", x.undo(), 1);
        due("FUR", x.told(1), 1);
        warmths("behind the first speech", x, 1, 10);
        due("the coat", x.told(3), 1);
        due("the first speech", x.undo(), 0);
        warmths("as told", x, 3, 9);
        due("the coat hangs", x.told(3), LastCoat.NONE);
        due("MINUTES", x.told(4), 0);
        LastCoat never = Checks.told("member 3 1;member 9 0;cold 2;fur 1;");
        // the two MINUTES of the second speech moved THE LOT on once
        never.lot(goneOn(1));
        TWINS.same("all is UNDONE", x, never);
    }

    // "that was not refused"
    private static void undoneWasWhatWasNotRefused() {
        LastCoat x = Checks.told("member 1 1;member 9 0;fur 4;");
        due("taken", x.speaks(1, 1), 1);
        due("taken", x.lining(), 5);
        due("lining() refused", x.lining(), LastCoat.STATE);
        due("speaks() refused", x.speaks(0, 1), LastCoat.STATE);
        due("speaks() refused", x.speaks(2, 1), LastCoat.BAD);
        due("speaks() refused", x.speaks(1, 10), LastCoat.BAD);
        due("pause() refused", x.pause(10), LastCoat.BAD);
        due("two", x.count(3), 2);
        due("undo()", x.undo(), 1);
        due("the lining", x.told(1), 4);
        due("undo()", x.undo(), 0);
        due("the speech", x.told(4), 0);
    }

    // "THE LOT stays"
    private static void undoneLeavesTheLot() {
        LastCoat x = Checks.told("member 9 1;");
        x.lot(1000);
        x.speaks(0, 3);
        x.undo();
        due("as the speech left it", x.lot(55), goneOn(goneOn(1000)));
        x.pause(1);
        x.lot(66);
        x.undo();
        due("as lot() left it", x.lot(0), 66);
    }

    // a SPEECH that coughs cut short is UNDONE like any other
    private static void undoneTakesASpeechCutShort() {
        LastCoat x = Checks.told("member 9 1;member 9 0;coughs 9;");
        x.lot(aheadOf(0));
        due("speaks(0, 9)", x.speaks(0, 9), 1);
        warmths("cut short", x, 10, 8);
        due("undo()", x.undo(), 0);
        warmths("UNDONE", x, 9, 9);
        due("MINUTES", x.told(4), 0);
        due("THE LOT stays", x.lot(0), 0);
    }

    // "STATE: none."
    private static void undoOfNone() {
        due("a new object", new LastCoat().undo(), LastCoat.STATE);
        due("told", Checks.told("member 1 1;").undo(), LastCoat.STATE);
        LastCoat x = Checks.told("member 1 1;");
        x.pause(1);
        due("undo()", x.undo(), 0);
        due("again", x.undo(), LastCoat.STATE);
        x.pause(1);
        x.house();
        due("read anew", x.undo(), LastCoat.STATE);
        // nobody can speak, but a pause and a lining can be UNDONE
        LastCoat nobody = new LastCoat();
        nobody.pause(1);
        nobody.lining();
        due("undo()", nobody.undo(), 1);
        due("undo()", nobody.undo(), 0);
        due("undo()", nobody.undo(), LastCoat.STATE);
    }

    // "THE LOT becomes v: what it was."; "1 at first"
    private static void lotBecomesAnyNumber() {
        LastCoat x = new LastCoat();
        int was = 1;
        for (int v : new int[] {0, -1, MAX, MIN, 1, 7}) {
            due("lot(" + v + ")", x.lot(v), was);
            was = v;
        }
        due("the same", x.lot(7), 7);
        due("the same again", x.lot(7), 7);
    }
}
