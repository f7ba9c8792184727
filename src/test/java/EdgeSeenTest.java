/**
 * The boundary cases of "SEEN", "FITS" and of promises 17 to 19, a test for each sentence that names
 * one; the sentence stands above it.
 */
public final class EdgeSeenTest {
    private static final Checks CHECKS = new Checks("EdgeSeenTest");
    private static final Twins TWINS = new Twins(CHECKS);
    private static final int BAD = LastCoat.BAD;

    public static void main(String[] args) {
        seenSixAtMost();
        seenBehindNoughtToFive();
        seenOfEverySetThatThereIs();
        bitsOfNobody();
        seenAgainIsOneMore();
        badAheadOfFull();
        seenChangesNothingElse();
        forgetOfNoneOneAndSix();
        fitsOfNoughtToFive();
        fitsOfNoughtMinutes();
        fitsOfNobody();
        fitsOfAllPlansThatThereMayBe();
        fitsOnlyWhoIsNotFrozen();
        fitsJustThese();
        fitsSeenToNAtMost();
        fitsSeenBehindFive();
        fitsAllThatWasSeen();
        fitsFromTheBeginning();
        fitsAsTold();
        seenStaysBehindUndoAndBack();
        seenIsGoneReadAnew();
        CHECKS.end();
    }

    private static void due(String call, long got, long want) {
        CHECKS.due(call, got, want);
    }

    private static void fits(String when, LastCoat x, int... plans) {
        for (int n = 0; n < plans.length; n++) {
            due(when + ": fits(" + n + ")", x.fits(n), plans[n]);
        }
    }

    // "SEEN (6 at most)"; "FULL"
    private static void seenSixAtMost() {
        LastCoat x = Checks.told("member 5 1;");
        due("none", x.count(2), 0);
        for (int i = 1; i <= 6; i++) {
            due("saw(1, 0)", x.saw(1, 0), i);
            due("count(2)", x.count(2), i);
        }
        due("a seventh", x.saw(1, 0), LastCoat.FULL);
        due("a seventh", x.saw(5, 1), LastCoat.FULL);
        due("count(2)", x.count(2), 6);
        due("the seventh is not SEEN", x.fits(5), 1);
        due("forget()", x.forget(), 6);
        due("the first again", x.saw(1, 0), 1);
    }

    // "behind t (0 .. 5) MINUTES"
    private static void seenBehindNoughtToFive() {
        for (int t = -1; t <= 6; t++) {
            boolean taken = t >= 0 && t <= 5;
            LastCoat x = Checks.told("member 5 1;");
            due("saw(" + t + ", 0)", x.saw(t, 0), taken ? 1 : BAD);
            due("count(2)", x.count(2), taken ? 1 : 0);
            x.forget();
            due("saw(" + t + ", 1)", x.saw(t, 1), taken ? 1 : BAD);
            // he speaks in each MINUTE, and is FROZEN never
            for (int n = 0; n <= 5; n++) {
                due("saw(" + t + ", 1), fits(" + n + ")", x.fits(n), taken && n >= t ? 0 : 1);
            }
        }
    }

    // "just these MEMBERS (bits)": none, each, all
    private static void seenOfEverySetThatThereIs() {
        for (int members = 0; members <= 6; members++) {
            String text = "member 5 1;".repeat(members);
            for (int set = -2; set <= 65; set++) {
                LastCoat x = Checks.told(text);
                boolean taken = set >= 0 && set < 1 << members;
                due(members + " MEMBERS, saw(0, " + set + ")", x.saw(0, set), taken ? 1 : BAD);
                due("fits(0)", x.fits(0), taken && set != 0 ? 0 : 1);
            }
        }
    }

    // "BAD (bits of nobody, too)"
    private static void bitsOfNobody() {
        LastCoat x = Checks.told("member 5 1;member 5 1;member 5 1;");
        due("bits of all", x.saw(1, 7), 1);
        for (int bit = 3; bit < 32; bit++) {
            due("bit " + bit, x.saw(1, 1 << bit), BAD);
            due("bit " + bit + " and all", x.saw(1, 1 << bit | 7), BAD);
        }
        due("count(2)", x.count(2), 1);
        LastCoat y = new LastCoat();
        due("nobody is there, no bits", y.saw(0, 0), 1);
        due("nobody is there, one bit", y.saw(0, 1), BAD);
    }

    // "how much there is": what is SEEN again, or can't be together, is one more
    private static void seenAgainIsOneMore() {
        LastCoat x = Checks.told("member 5 1;member 5 1;");
        due("once", x.saw(1, 0), 1);
        due("again", x.saw(1, 0), 2);
        fits("the same twice", x, 1, 2, 4);
        due("what can't be together with it", x.saw(1, 1), 3);
        fits("neither", x, 1, 0, 0);
    }

    // "Refused .. the first of these: BAD .., FULL."
    private static void badAheadOfFull() {
        TWINS.unchanged("saw(6, 0)", Twins::full, x -> x.saw(6, 0), BAD);
        TWINS.unchanged("saw(0, -1)", Twins::full, x -> x.saw(0, -1), BAD);
        TWINS.unchanged("saw(0, 64)", Twins::full, x -> x.saw(0, 64), BAD);
        TWINS.unchanged("saw(5, 63)", Twins::full, x -> x.saw(5, 63), LastCoat.FULL);
    }

    // saw(), forget() change nothing but what was SEEN
    private static void seenChangesNothingElse() {
        LastCoat x = new LastCoat();
        LastCoat other = new LastCoat();
        Twins.rich(x);
        Twins.rich(other);
        x.saw(3, 7);
        x.saw(4, 1);
        due("forget()", x.forget(), 4);
        other.forget();
        TWINS.same("saw(), forget()", x, other);
    }

    // "Nothing was SEEN: how much there was."
    private static void forgetOfNoneOneAndSix() {
        LastCoat x = Checks.told("member 5 1;");
        due("none", x.forget(), 0);
        for (int seen = 1; seen <= 6; seen++) {
            for (int i = 0; i < seen; i++) {
                x.saw(0, 1);
            }
            due("fits(0)", x.fits(0), 0);
            due(seen + " SEEN", x.forget(), seen);
            due("fits(0)", x.fits(0), 1);
            due("count(2)", x.count(2), 0);
            due("none is left", x.forget(), 0);
        }
    }

    // "FITS n (0 .. 5)"
    private static void fitsOfNoughtToFive() {
        LastCoat x = Checks.told("member 9 1;member 9 0;");
        due("fits(-1)", x.fits(-1), BAD);
        fits("two MEMBERS", x, 1, 2, 4, 8, 16, 32);
        due("fits(6)", x.fits(6), BAD);
    }

    // "how many PLANS of n MINUTES": of none there is one
    private static void fitsOfNoughtMinutes() {
        LastCoat x = Checks.told("member 9 1;member 9 0;");
        due("nothing SEEN", x.fits(0), 1);
        x.saw(0, 0);
        due("nobody was FROZEN at first", x.fits(0), 1);
        x.saw(1, 3);
        due("what was SEEN behind one is not asked", x.fits(0), 1);
        x.saw(0, 2);
        due("somebody was", x.fits(0), 0);
        due("nor is there any longer one", x.fits(5), 0);
    }

    // the same, where nobody is there: nobody can speak
    private static void fitsOfNobody() {
        LastCoat x = new LastCoat();
        fits("nobody", x, 1, 0, 0, 0, 0, 0);
        x.saw(0, 0);
        x.saw(5, 0);
        fits("nobody was FROZEN", x, 1, 0, 0, 0, 0, 0);
    }

    // six MEMBERS, five MINUTES: the most that there may be
    private static void fitsOfAllPlansThatThereMayBe() {
        LastCoat x = Checks.told("member 20 1;".repeat(6));
        fits("six MEMBERS", x, 1, 6, 36, 216, 1296, 7776);
        for (int t = 0; t <= 5; t++) {
            x.saw(t, 0);
        }
        fits("six MEMBERS, never FROZEN", x, 1, 6, 36, 216, 1296, 7776);
        fits("one MEMBER", Checks.told("member 1 1;"), 1, 1, 1, 1, 1, 1);
    }

    // "PLANS ..: who speaks in each one (who is not FROZEN then"
    private static void fitsOnlyWhoIsNotFrozen() {
        fits("all others are FROZEN behind one", Checks.told("member 1 1;".repeat(6)), 1, 6, 6, 6, 6, 6);
        // whoever spoke in one of the first two MINUTES; behind three one of them alone is left
        fits("WARMTH 2", Checks.told("member 2 1;member 2 1;fur 0;"), 1, 2, 4, 6, 6, 6);
        fits("COLD 0", Checks.told("member 1 1;".repeat(3) + "cold 0;"), 1, 3, 9, 27, 81, 243);
    }

    // "just these MEMBERS (bits) were FROZEN": neither less nor more of them
    private static void fitsJustThese() {
        int[] plans = {0, 0, 0, 1, 0, 1, 1, 0};
        for (int set = 0; set < 8; set++) {
            LastCoat x = Checks.told("member 1 1;member 1 1;member 1 1;");
            x.saw(1, set);
            due("saw(1, " + set + "), fits(1)", x.fits(1), plans[set]);
        }
        LastCoat x = Checks.told("member 1 1;member 2 1;member 3 1;");
        x.saw(2, 3);
        due("just 0 and 1", x.fits(2), 1);
        x.forget();
        x.saw(2, 1);
        due("just 0", x.fits(2), 3);
        x.forget();
        x.saw(2, 0);
        due("nobody", x.fits(2), 1);
    }

    // "all that was SEEN to t of n at most is so": t n is asked, t n + 1 is not
    private static void fitsSeenToNAtMost() {
        for (int t = 0; t <= 5; t++) {
            LastCoat x = Checks.told("member 9 1;member 9 0;");
            x.saw(t, 3);
            for (int n = 0; n <= 5; n++) {
                due("saw(" + t + ", both), fits(" + n + ")", x.fits(n), n >= t ? 0 : 1 << n);
            }
        }
    }

    // "behind t (0 .. 5) MINUTES": behind the last one, too
    private static void fitsSeenBehindFive() {
        LastCoat x = Checks.told("member 9 1;member 5 0;");
        x.saw(5, 2);
        fits("1 did not speak in any of five", x, 1, 2, 4, 8, 16, 1);
        x.forget();
        x.saw(5, 0);
        fits("1 spoke once at least", x, 1, 2, 4, 8, 16, 31);
        LastCoat y = Checks.told("member 9 1;member 6 0;");
        y.saw(5, 2);
        fits("nobody can be FROZEN yet", y, 1, 2, 4, 8, 16, 0);
    }

    // "by which all that was SEEN .. is so": the sixth as the first
    private static void fitsAllThatWasSeen() {
        for (int wrong = 0; wrong < 6; wrong++) {
            LastCoat x = Checks.told("member 9 1;member 9 0;");
            for (int i = 0; i < 6; i++) {
                due("no wrong one yet: fits(5)", x.fits(5), i > wrong ? 0 : 32);
                x.saw(2, i == wrong ? 1 : 0);
            }
            fits("the wrong one is " + wrong, x, 1, 2, 0, 0, 0, 0);
        }
        LastCoat x = Checks.told("member 1 1;member 2 1;member 3 1;member 4 1;");
        x.saw(0, 0);
        x.saw(1, 1);
        x.saw(2, 3);
        x.saw(3, 7);
        fits("3 alone spoke", x, 1, 3, 4, 1, 1, 1);
    }

    // "from the beginning (as told, the COAT hangs)"
    private static void fitsFromTheBeginning() {
        String text = "member 3 1;member 3 0;member 9 1;seconds 0 1;seconds 1 2;cold 2;fur 1;";
        LastCoat at = Checks.told(text);
        LastCoat x = Checks.told(text);
        x.speaks(2, 2);
        x.keep(0);
        x.pause(9);
        for (int n = 0; n <= 5; n++) {
            due("behind a speech and a PAUSE: fits(" + n + ")", x.fits(n), at.fits(n));
        }
        x.back(0);
        for (int n = 0; n <= 5; n++) {
            due("behind back(): fits(" + n + ")", x.fits(n), at.fits(n));
        }
        LastCoat frozen = Checks.told("member 1 1;member 1 1;");
        frozen.pause(1);
        fits("all are FROZEN NOW", frozen, 1, 2, 2, 2, 2, 2);
    }

    // "as told": FUR, too, however it was LINED
    private static void fitsAsTold() {
        LastCoat x = Checks.told("member 2 1;member 2 1;fur 0;");
        fits("FUR 0", x, 1, 2, 4, 6, 6, 6);
        for (int fur = 1; fur <= 5; fur++) {
            x.lining();
            fits("FUR 0 as told, " + fur + " NOW", x, 1, 2, 4, 6, 6, 6);
        }
        // taking turns keeps both: 2 * (1 + what there is of two MINUTES less) plans
        fits("FUR 1 as told", Checks.told("member 2 1;member 2 1;"), 1, 2, 4, 6, 10, 14);
    }

    // IMAGES keep "nothing else"; UNDONE is "the last SPEECH, PAUSE or LINING"
    private static void seenStaysBehindUndoAndBack() {
        LastCoat x = Checks.told("member 9 1;");
        x.keep(0);
        x.pause(1);
        x.saw(0, 1);
        x.undo();
        due("undo()", x.count(2), 1);
        x.back(0);
        due("back()", x.count(2), 1);
        due("it is asked yet", x.fits(0), 0);
    }

    // "Read anew: .. nothing SEEN"
    private static void seenIsGoneReadAnew() {
        LastCoat x = Checks.told("member 9 1;");
        for (int i = 0; i < 6; i++) {
            x.saw(0, 1);
        }
        due("at fault", Checks.house(x, "member 9 1"), -20);
        due("count(2)", x.count(2), 6);
        due("fits(0)", x.fits(0), 0);
        due("read anew", Checks.house(x, "member 9 1;"), 1);
        due("count(2)", x.count(2), 0);
        due("fits(0)", x.fits(0), 1);
        due("the first again", x.saw(0, 0), 1);
    }
}
