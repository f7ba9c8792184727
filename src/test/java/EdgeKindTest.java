/**
 * The boundary cases of "4 KINDS .." (RATE, THE TRACE, IMAGES, reading anew), of promises 20 to 24
 * and of an object's 512 calls, a test for each sentence that names one; the sentence stands above it.
 */
public final class EdgeKindTest {
    private static final Checks CHECKS = new Checks("EdgeKindTest");
    private static final Twins TWINS = new Twins(CHECKS);
    private static final int BAD = LastCoat.BAD;
    private static final int STATE = LastCoat.STATE;
    private static final int NO = LastCoat.NO;

    public static void main(String[] args) {
        theConstants();
        kindsNoughtToFive();
        ratesOfTheLeast();
        ratesOfTheGreatest();
        ratesOfTheFrozen();
        ratesOfFurNow();
        traceOfEachKindOnce();
        traceOfWhatIsRefused();
        traceGoesOn();
        rateChangesNothingElse();
        imagesNoughtAndOne();
        imagesOfTheBeginning();
        imagesKeepFive();
        imagesKeepNothingElse();
        imagesKeptAnew();
        imagesAgainAndAgain();
        noneWasKept();
        nothingUndoneBehindBack();
        keepChangesNothingElse();
        readAnewIsAsTold();
        readAnewLeavesNothingToldBefore();
        readAnewTheLotStays();
        readAnewImagesAreGone();
        readAnewNothingUndone();
        countsOfNone();
        countsOfAll();
        fiveHundredAndTwelveCalls();
        laterCallsEnd();
        CHECKS.end();
    }

    private static void due(String call, long got, long want) {
        CHECKS.due(call, got, want);
    }

    // "BAD = -1, STATE = -2, FULL = -3, NONE = -9", "NO = -1000000"
    private static void theConstants() {
        due("BAD", BAD, -1);
        due("STATE", STATE, -2);
        due("FULL", LastCoat.FULL, -3);
        due("NONE", LastCoat.NONE, -9);
        due("NO", NO, -1000000);
    }

    // "0 MEMBER; 1 ORATOR, 2 DEAF ONE, 5 SLEEPER ..; 3 STAMMERER ..; 4 CHAIR"; "NO: BAD."
    private static void kindsNoughtToFive() {
        LastCoat x = Checks.told("member 7 1;member 9 0;seconds 0 1;cold 3;fur 2;");
        int[] first = {NO, 7, 7, 4, 14, 4, 9, NO};
        int[] second = {NO, 9, 10, 6, 20, 7, 11, NO};
        for (int kind = -1; kind <= 6; kind++) {
            due("rate(" + kind + ", -1)", x.rate(kind, -1), NO);
            due("rate(" + kind + ", 0)", x.rate(kind, 0), first[kind + 1]);
            due("rate(" + kind + ", 1)", x.rate(kind, 1), second[kind + 1]);
            due("rate(" + kind + ", 2)", x.rate(kind, 2), NO);
        }
    }

    // a RATE may be 0, and below it
    private static void ratesOfTheLeast() {
        LastCoat x = Checks.told("member 1 1;member 1 1;cold 5;fur 0;");
        int[] least = {1, 1, -4, 2, -4, 1};
        for (int kind = 0; kind <= 5; kind++) {
            due("rate(" + kind + ", 0)", x.rate(kind, 0), least[kind]);
        }
        due("CHAIR, and his number", x.rate(4, 1), -3);
        LastCoat y = Checks.told("member 5 1;cold 5;");
        due("DEAF ONE of nought", y.rate(2, 0), 0);
        due("CHAIR of nought", y.rate(4, 0), 0);
    }

    // WARMTH 20, five who second him, FUR 5, the last one's number
    private static void ratesOfTheGreatest() {
        LastCoat x = Checks.told("member 20 1;".repeat(6) + "seconds 0 5;seconds 1 5;seconds 2 5;seconds 3 5;"
            + "seconds 4 5;seconds 4 5;cold 0;fur 5;");
        int[] greatest = {20, 25, 20, 50, 25, 25};
        for (int kind = 0; kind <= 5; kind++) {
            due("rate(" + kind + ", 5)", x.rate(kind, 5), greatest[kind]);
        }
    }

    // WARMTH 0
    private static void ratesOfTheFrozen() {
        LastCoat x = Checks.told("member 1 1;member 9 0;seconds 1 0;cold 2;fur 4;");
        x.speaks(1, 1);
        int[] frozen = {0, 1, -2, 2, -2, 4};
        for (int kind = 0; kind <= 5; kind++) {
            due("rate(" + kind + ", 0)", x.rate(kind, 0), frozen[kind]);
        }
    }

    // "SLEEPER up, and FUR NOW"
    private static void ratesOfFurNow() {
        LastCoat x = Checks.told("member 9 1;fur 3;");
        due("as told", x.rate(5, 0), 12);
        x.lining();
        due("LINED", x.rate(5, 0), 13);
        x.lining();
        due("LINED to 5", x.rate(5, 0), 14);
        x.lining();
        due("LINED no more", x.rate(5, 0), 14);
        x.undo();
        due("UNDONE", x.rate(5, 0), 13);
    }

    // "added to THE TRACE, 0 at first, as often as rate() asks that body: each once"
    private static void traceOfEachKindOnce() {
        due("at first", new LastCoat().trace(), 0);
        int[] added = {1, 11, 101, 1011, 10101, 100001};
        for (int kind = 0; kind <= 5; kind++) {
            LastCoat x = Checks.told("member 9 1;member 9 1;seconds 0 1;seconds 1 0;");
            for (int i = 1; i <= 3; i++) {
                x.rate(kind, i % 2);
                due("trace() behind " + i + " of KIND " + kind, x.trace(), (long) added[kind] * i);
            }
        }
    }

    // "NO: BAD": nothing changes
    private static void traceOfWhatIsRefused() {
        LastCoat x = Checks.told("member 9 1;");
        for (int kind = -1; kind <= 6; kind++) {
            due("rate(" + kind + ", 1)", x.rate(kind, 1), NO);
            due("rate(" + kind + ", -1)", x.rate(kind, -1), NO);
        }
        due("rate(6, 0)", x.rate(6, 0), NO);
        due("rate(-1, 0)", x.rate(-1, 0), NO);
        due("trace()", x.trace(), 0);
    }

    // "THE TRACE goes on, as behind undo(), back()."
    private static void traceGoesOn() {
        LastCoat x = Checks.told("member 9 1;");
        x.rate(5, 0);
        x.keep(0);
        x.pause(1);
        x.rate(4, 0);
        x.undo();
        due("undo()", x.trace(), 110102);
        x.back(0);
        due("back()", x.trace(), 110102);
        Checks.house(x, "member 8 1");
        due("house() at fault", x.trace(), 110102);
        Checks.house(x, "member 8 1;");
        due("house()", x.trace(), 110102);
        x.rate(0, 0);
        due("one more", x.trace(), 110103);
    }

    // rate() changes nothing but THE TRACE
    private static void rateChangesNothingElse() {
        LastCoat x = new LastCoat();
        LastCoat other = new LastCoat();
        Twins.rich(x);
        Twins.rich(other);
        // the same sum, by other ways
        for (int i = 0; i < 11; i++) {
            x.rate(0, i % 3);
        }
        other.rate(0, 0);
        for (int i = 0; i < 10; i++) {
            x.rate(1, 1);
            other.rate(0, 2);
            other.rate(1, 2);
        }
        TWINS.same("rate()", x, other);
    }

    // "IMAGES 0, 1"
    private static void imagesNoughtAndOne() {
        LastCoat x = Checks.told("member 9 1;");
        int[] answer = {BAD, 0, 0, BAD};
        for (int image = -1; image <= 2; image++) {
            due("keep(" + image + ")", x.keep(image), answer[image + 1]);
        }
        for (int image = -1; image <= 2; image++) {
            due("back(" + image + ")", x.back(image), answer[image + 1]);
        }
        // each has its own
        x.pause(1);
        due("keep(1)", x.keep(1), 1);
        due("back(0)", x.back(0), 0);
        due("WARMTH", x.member(0, 0), 9);
        due("back(1)", x.back(1), 1);
        due("WARMTH", x.member(0, 0), 8);
    }

    // "THE LOT, 1 at first"; no MINUTE went by; nobody is there
    private static void imagesOfTheBeginning() {
        LastCoat x = new LastCoat();
        due("keep(0)", x.keep(0), 0);
        x.lot(5);
        x.pause(3);
        x.lining();
        due("back(0)", x.back(0), 0);
        due("THE LOT", x.lot(1), 1);
        TWINS.same("back at the beginning", x, keptAtFirst());
    }

    private static LastCoat keptAtFirst() {
        LastCoat x = new LastCoat();
        x.keep(0);
        return x;
    }

    // "IMAGES .. keep NOW (WARMTH, who wears the COAT, FUR, MINUTES that went by, THE LOT"
    private static void imagesKeepFive() {
        LastCoat x = Checks.told("member 5 1;member 9 0;fur 2;coughs 9;");
        x.speaks(0, 1);
        x.lining();
        x.lot(-123456789);
        due("keep(1)", x.keep(1), 1);
        x.speaks(1, 1);
        x.pause(9);
        x.lining();
        x.lot(77);
        due("behind it", x.told(5), 1);
        due("back(1)", x.back(1), 1);
        due("WARMTH", x.member(0, 0), 7);
        due("WARMTH", x.member(1, 0), 8);
        due("the coat", x.told(3), 0);
        due("FUR", x.told(1), 3);
        due("MINUTES", x.told(4), 1);
        due("FROZEN", x.told(5), 0);
        due("THE LOT", x.lot(0), -123456789);
    }

    // "nothing else": SEEN, THE TEXT, THE TRACE, the other IMAGE
    private static void imagesKeepNothingElse() {
        LastCoat x = Checks.told("member 5 1;");
        x.saw(1, 0);
        x.keep(0);
        x.saw(2, 0);
        x.rate(0, 0);
        Checks.type(x, "fur 4;");
        x.pause(1);
        x.keep(1);
        due("back(0)", x.back(0), 0);
        due("SEEN", x.count(2), 2);
        due("THE TRACE", x.trace(), 1);
        due("THE TEXT", x.count(4), 6);
        due("the other IMAGE", x.back(1), 1);
        due("house()", x.house(), 1);
        due("FUR", x.told(1), 4);
    }

    // "An IMAGE is kept": in the place of the one that it had
    private static void imagesKeptAnew() {
        LastCoat x = Checks.told("member 5 1;");
        for (int minutes = 1; minutes <= 4; minutes++) {
            x.pause(1);
            due("keep(0)", x.keep(0), minutes);
        }
        x.pause(1);
        due("the last one kept", x.back(0), 4);
        due("WARMTH", x.member(0, 0), 1);
        due("kept of itself", x.keep(0), 4);
        due("back(0)", x.back(0), 4);
    }

    // "All of that becomes as an IMAGE has it": it has it yet
    private static void imagesAgainAndAgain() {
        LastCoat x = Checks.told("member 5 1;coughs 5;");
        x.lot(4242);
        x.keep(0);
        int minutes = x.speaks(0, 9);
        for (int i = 0; i < 5; i++) {
            due("back(0)", x.back(0), 0);
            due("the coat hangs", x.told(3), LastCoat.NONE);
            due("the same speech", x.speaks(0, 9), minutes);
        }
    }

    // "STATE: none was kept."
    private static void noneWasKept() {
        LastCoat x = Checks.told("member 5 1;");
        due("back(0)", x.back(0), STATE);
        due("back(1)", x.back(1), STATE);
        x.keep(0);
        due("back(1), 0 was kept", x.back(1), STATE);
        due("back(0)", x.back(0), 0);
        x.keep(1);
        due("back(1)", x.back(1), 0);
        LastCoat y = new LastCoat();
        y.keep(1);
        due("back(0), 1 was kept", y.back(0), STATE);
    }

    // "(nothing can be UNDONE behind back())"
    private static void nothingUndoneBehindBack() {
        LastCoat x = Checks.told("member 20 1;");
        for (int done = 0; done <= 11; done++) {
            x.keep(0);
            for (int i = 0; i < done; i++) {
                x.pause(1);
            }
            due("count(3)", x.count(3), Math.min(10, done));
            due("back(0)", x.back(0), 0);
            due("count(3) behind back()", x.count(3), 0);
            due("undo()", x.undo(), STATE);
        }
        x.pause(1);
        due("back(1) refused", x.back(1), STATE);
        due("back(2) refused", x.back(2), BAD);
        due("that can be UNDONE yet", x.undo(), 0);
    }

    // keep() changes nothing but that IMAGE; what may be UNDONE may be so yet
    private static void keepChangesNothingElse() {
        LastCoat x = new LastCoat();
        LastCoat other = new LastCoat();
        Twins.full(x);
        Twins.full(other);
        due("keep(0)", x.keep(0), 7);
        for (int more = 10; more >= 0; more--) {
            due("UNDONE", x.count(3), more);
            for (int what = 0; what <= 5; what++) {
                due("told(" + what + ")", x.told(what), other.told(what));
                due("count(" + what + ")", x.count(what), other.count(what));
                due("WARMTH of " + what, x.member(what, 0), other.member(what, 0));
            }
            due("undo()", x.undo(), other.undo());
        }
        due("the other IMAGE", x.back(1), other.back(1));
        due("this one", x.back(0), 7);
        due("the other object's", other.back(0), 1);
        x.back(1);
        other.back(1);
        other.keep(0);
        x.keep(0);
        TWINS.same("the same kept", x, other);
    }

    // "Read anew: as told (what is not told as at first), no MINUTE went by, nothing SEEN, IMAGES are gone,
    // nothing can be UNDONE"
    private static void readAnewIsAsTold() {
        for (String text : new String[] {"", "member 3 1;", Twins.ALL, "cold 5;fur 5;coughs 9;", "member 1 0;fur 0;"}) {
            for (Twins.Story story : new Twins.Story[] {x -> { }, Twins::cold, Twins::full}) {
                LastCoat x = new LastCoat();
                story.tell(x);
                int items = Checks.house(x, text);
                LastCoat other = new LastCoat();
                due("house() of '" + text + "'", items, Checks.house(other, text));
                TWINS.same("read anew: '" + text + "'", x, other);
            }
        }
    }

    // "as told (what is not told as at first)": whatever was told before, and before that, at fault, too
    private static void readAnewLeavesNothingToldBefore() {
        String[] texts = {"", "member 3 0;", Twins.ALL, Twins.ALL + "cold", "member 20 1;member 16 1;seconds 0 1;",
            "member 8 0;member 4 0;seconds 1 0;cold 5;fur 4;coughs 9;;", "cold 4;fur 3;coughs 6;"};
        for (String first : texts) {
            for (String second : texts) {
                for (String third : new String[] {"", "member 3 0;member 1 0;", "member 1 0;fur 0;member 2 1;"}) {
                    LastCoat x = new LastCoat();
                    Checks.house(x, first);
                    Checks.house(x, second);
                    due("house() of '" + third + "'", Checks.house(x, third), Checks.house(new LastCoat(), third));
                    TWINS.same("read anew: '" + first + "', '" + second + "', '" + third + "'", x, Checks.told(third));
                }
            }
        }
    }

    // "THE LOT stays"
    private static void readAnewTheLotStays() {
        LastCoat x = new LastCoat();
        for (int lot : new int[] {0, -1, Integer.MIN_VALUE, Integer.MAX_VALUE, 7}) {
            x.lot(lot);
            due("house()", Checks.house(x, "member 5 1;coughs 9;"), 2);
            due("at fault", Checks.house(x, "member"), -16);
            due("THE LOT", x.lot(1), lot);
        }
    }

    // "IMAGES are gone"
    private static void readAnewImagesAreGone() {
        LastCoat x = Checks.told("member 5 1;");
        x.keep(0);
        x.keep(1);
        due("at fault", Checks.house(x, "member"), -16);
        due("back(0)", x.back(0), 0);
        due("back(1)", x.back(1), 0);
        x.clear();
        due("read anew, of nothing", x.house(), 0);
        due("back(0)", x.back(0), STATE);
        due("back(1)", x.back(1), STATE);
        due("keep(1)", x.keep(1), 0);
        due("back(0)", x.back(0), STATE);
        due("back(1)", x.back(1), 0);
    }

    // "nothing can be UNDONE"
    private static void readAnewNothingUndone() {
        LastCoat x = Checks.told("member 20 1;");
        for (int i = 0; i < 11; i++) {
            x.pause(1);
        }
        due("at fault", Checks.house(x, "member"), -16);
        due("count(3)", x.count(3), 10);
        due("undo()", x.undo(), 9);
        x.clear();
        due("read anew, of nothing", x.house(), 0);
        due("count(3)", x.count(3), 0);
        due("undo()", x.undo(), STATE);
        due("MINUTES", x.told(4), 0);
    }

    // "0 MEMBERS, 1 SECONDS, 2 SEEN, 3 how many may be UNDONE, 4 bytes of THE TEXT. BAD.": none
    private static void countsOfNone() {
        LastCoat x = new LastCoat();
        for (int what = -1; what <= 5; what++) {
            due("count(" + what + ")", x.count(what), what < 0 || what > 4 ? BAD : 0);
        }
    }

    // the same: as many as there may be
    private static void countsOfAll() {
        LastCoat x = new LastCoat();
        Twins.full(x);
        int[] most = {BAD, 6, 8, 6, 10, 200, BAD};
        for (int what = -1; what <= 5; what++) {
            due("count(" + what + ")", x.count(what), most[what + 1]);
        }
    }

    // "An object is used for at most 512 calls after it has been made": the last one answers as the first
    private static void fiveHundredAndTwelveCalls() {
        LastCoat x = new LastCoat();
        for (int call = 1; call < 512; call++) {
            due("pause(9), call " + call, x.pause(9), 0);
        }
        due("told(4), call 512", x.told(4), 511 * 9);
        LastCoat y = Checks.told("member 1 1;");
        for (int call = 5; call < 512; call++) {
            due("rate(5, 0), call " + call, y.rate(5, 0), 2);
        }
        due("trace(), call 512", y.trace(), 507L * 100001);
        LastCoat z = Checks.told("member 1 1;cold 5;");
        for (int call = 6; call < 512; call++) {
            due("speaks(0, 9), call " + call, z.speaks(0, 9), 9);
        }
        due("undo(), call 512", z.undo(), 9);
    }

    // "what later calls answer is free"; LANGUAGE.md, 7: "No call may ever throw or fail to end"
    private static void laterCallsEnd() {
        LastCoat x = new LastCoat();
        Twins.full(x);
        for (int call = 0; call < 20000; call++) {
            int n = call % 11 - 1;
            x.speaks(call % 7, n);
            x.pause(n);
            x.lining();
            x.undo();
            x.rate(n, n);
            x.keep(n);
            x.back(n);
            x.saw(n, n);
            x.carry(n);
            x.type(0x6675722031203B3BL, n);
            x.house();
        }
        due("MINUTES are there yet", x.told(4) >= 0 ? 1 : 0, 1);
    }
}
