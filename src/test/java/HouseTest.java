/** Promises 1 to 6: a new object, THE TEXT, and what it tells. */
public final class HouseTest {
    private static final Checks CHECKS = new Checks("HouseTest");

    public static void main(String[] args) {
        aNewObject();
        typing();
        clearing();
        itemsAreCounted();
        blanksAndTokens();
        faultsOfTokens();
        faultsOfMembers();
        faultsOfSeconds();
        faultsOfWhatIsToldOnce();
        textsThatEndTooEarly();
        aFaultChangesNothing();
        tellingAllAnew();
        membersAnswers();
        toldAnswers();
        CHECKS.end();
    }

    private static void due(String call, long got, long want) {
        CHECKS.due(call, got, want);
    }

    private static void fault(String text, int place) {
        due("house() of '" + text + "'", Checks.house(new LastCoat(), text), -10 - place);
    }

    private static void items(String text, int items) {
        due("house() of '" + text + "'", Checks.house(new LastCoat(), text), items);
    }

    private static void aNewObject() {
        LastCoat x = new LastCoat();
        due("new: COLD", x.told(0), 1);
        due("new: FUR", x.told(1), 1);
        due("new: COUGHS", x.told(2), 0);
        due("new: the coat hangs", x.told(3), LastCoat.NONE);
        due("new: MINUTES", x.told(4), 0);
        due("new: FROZEN", x.told(5), 0);
        for (int what = 0; what <= 4; what++) {
            due("new: count(" + what + ")", x.count(what), 0);
        }
        due("new: member(0, 0)", x.member(0, 0), LastCoat.BAD);
        due("new: trace()", x.trace(), 0);
        due("new: undo()", x.undo(), LastCoat.STATE);
        due("new: back(0)", x.back(0), LastCoat.STATE);
        due("new: back(1)", x.back(1), LastCoat.STATE);
        due("new: lot(5)", x.lot(5), 1);
        due("new: vote()", x.vote(), 0);
    }

    private static void typing() {
        LastCoat x = new LastCoat();
        due("type(.., 0)", x.type(59L, 0), LastCoat.BAD);
        due("type(.., 9)", x.type(59L, 9), LastCoat.BAD);
        due("type(.., -1)", x.type(59L, -1), LastCoat.BAD);
        due("type(.., MIN)", x.type(59L, Integer.MIN_VALUE), LastCoat.BAD);
        due("type(.., MAX)", x.type(59L, Integer.MAX_VALUE), LastCoat.BAD);
        due("count(4) behind BAD", x.count(4), 0);
        // the higher bytes do not come to THE TEXT, and the highest of the others comes first
        due("type 'f'", x.type(0x7878787878787866L, 1), 1);
        due("type 'ur'", x.type(0xFFFFFFFFFFFF7572L, 2), 3);
        due("type ' 2;'", x.type(0x20323BL, 3), 6);
        due("house()", x.house(), 1);
        due("told(1)", x.told(1), 2);

        for (int i = 1; i <= 25; i++) {
            due("type 8 blanks, " + i, x.type(0x2020202020202020L, 8), 8 * i);
        }
        due("type beyond 200", x.type(32L, 1), LastCoat.FULL);
        due("type beyond 200, BAD first", x.type(32L, 9), LastCoat.BAD);
        due("count(4)", x.count(4), 200);
        due("house() of 200 blanks", x.house(), 0);
        for (int i = 1; i <= 24; i++) {
            x.type(0x2020202020202020L, 8);
        }
        due("type to 199", x.type(0x20202020202020L, 7), 199);
        due("type 2 at 199", x.type(0x2020L, 2), LastCoat.FULL);
        due("count(4) behind FULL", x.count(4), 199);
        due("type 1 at 199", x.type(0x20L, 1), 200);
        due("house()", x.house(), 0);
    }

    private static void clearing() {
        LastCoat x = new LastCoat();
        due("clear() of none", x.clear(), 0);
        Checks.type(x, "nonsense");
        due("clear()", x.clear(), 8);
        due("count(4)", x.count(4), 0);
        due("house() behind clear()", x.house(), 0);
        due("clear() again", x.clear(), 0);
    }

    private static void itemsAreCounted() {
        items("", 0);
        items("     ", 0);
        items("member 1 0;", 1);
        items("cold 0;", 1);
        items("cold 5;fur 5;coughs 9;", 3);
        items("coughs 0;fur 0;cold 0;", 3);
        items("member 20 1;member 1 0;seconds 0 1;seconds 1 0;", 4);
        items("member 5 1;member 5 1;member 5 1;member 5 1;member 5 1;member 5 1;", 6);
        items("member 5 1;member 5 1;seconds 0 1;seconds 0 1;seconds 0 1;seconds 0 1;seconds 0 1;seconds 0 1;"
                + "seconds 0 1;seconds 1 0;", 10);
    }

    private static void blanksAndTokens() {
        items("member5 1;", 1);
        items("   member   5   1   ;   fur2;  ", 2);
        items("member5 1;member6 0;seconds0 1;cold2;fur3;coughs4;", 6);
        LastCoat x = Checks.told("  member12 1;cold2  ;");
        due("WARMTH 12", x.member(0, 0), 12);
        due("SIDE 1", x.member(0, 1), 1);
        due("COLD 2", x.told(0), 2);
    }

    private static void faultsOfTokens() {
        fault(";", 0);
        fault("  ;", 2);
        fault("5;", 0);
        fault("cold 1;;", 7);
        fault("cold 1; 7", 8);
        fault("colds 1;", 0);
        fault("colda 1;", 0);
        fault("coldz 1;", 0);
        fault("bold 1;", 0);
        fault("gur 1;", 0);
        fault("roughs 1;", 0);
        fault("nember 1 1;", 0);
        fault("member 1 1;member 1 1;beconds 0 1;", 22);
        fault("colt 1;", 0);
        fault("col 1;", 0);
        fault("memberfur 1;", 0);
        fault("fur 1;furcold 1;", 6);
        fault("Cold 1;", 0);
        fault("coLd 1;", 0);
        fault("cold# 1;", 4);
        fault("cold\t1;", 4);
        fault("cold 1\n;", 6);
        fault("cold -1;", 5);
        fault("cold 1,", 6);
        fault("cold\u00e9 1;", 4);
        fault("\u00ff", 0);
        fault("cold \u0000;", 5);
        fault("\u0000", 0);
        fault("cold 1;\u0000", 7);
        fault("cold `;", 5);
        fault("cold {;", 5);
        fault("cold /;", 5);
        fault("cold :;", 5);
        fault("cold 00;", 5);
        fault("cold 01;", 5);
        fault("cold 100;", 5);
        fault("cold 4294967297;", 5);
        fault("cold 99999999999999999999999999999999;", 5);
        fault("cold 18446744073709551617;", 5);
        fault("cold cold;", 5);
        fault("cold 1 1;", 7);
        fault("cold 1 fur;", 7);
        fault("cold 1fur;", 6);
        fault("cold;", 4);
        fault("member;", 6);
        fault("member 1;", 8);
        fault("member 1 1 1;", 11);
        fault("member 1 member;", 9);
    }

    private static void faultsOfMembers() {
        fault("member 0 1;", 7);
        fault("member 21 1;", 7);
        fault("member 99 1;", 7);
        fault("member 111 1;", 7);
        fault("member 1 2;", 9);
        fault("member 1 01;", 9);
        String six = "member 1 1;member 1 1;member 1 1;member 1 1;member 1 1;member 1 1;";
        fault(six + "member", 66);
        fault(six + " member 1 1;", 67);
        items(six + "fur 1;", 7);
    }

    private static void faultsOfSeconds() {
        fault("seconds 0 1;", 8);
        fault("seconds 0 1;member 1 1;member 1 1;", 8);
        fault("member 1 1;seconds 0 1;", 21);
        fault("member 1 1;seconds 0 0;", 21);
        fault("member 1 1;seconds 1 0;", 19);
        fault("member 1 1;seconds 0 1;member 1 1;", 21);
        fault("member 1 1;member 1 1;seconds 1 1;", 32);
        fault("member 1 1;member 1 1;seconds 1;", 31);
        String two = "member 1 1;member 1 1;";
        String eight = two + "seconds 0 1;seconds 0 1;seconds 0 1;seconds 0 1;seconds 1 0;seconds 1 0;seconds 1 0;seconds 1 0;";
        items(eight, 10);
        fault(eight + "seconds 0 1;", eight.length());
        fault(eight + "seconds", eight.length());
    }

    private static void faultsOfWhatIsToldOnce() {
        fault("cold 6;", 5);
        fault("fur 6;", 4);
        fault("coughs 10;", 7);
        fault("cold 1;cold 1;", 7);
        fault("fur 1; fur 1;", 7);
        fault("coughs 1;fur 1;coughs 1;", 15);
        fault("cold 0;fur 0;coughs 0;cold", 22);
    }

    private static void textsThatEndTooEarly() {
        fault("cold", 4);
        fault("cold ", 5);
        fault("cold 1", 6);
        fault("cold 1  ", 8);
        fault("fur 1;cold", 10);
        fault("member 5 1;member", 17);
        fault("member 5 1;member 5", 19);
        fault("member 5 1;member 5 1", 21);
        fault("member 5 1;seconds", 18);
        fault("member 5 1;seconds 0", 20);
        fault("member 5 1;member 5 0;seconds 0 1", 33);
        fault("seconds", 7);
    }

    private static void aFaultChangesNothing() {
        LastCoat x = Checks.told("member 5 1;member 6 0;seconds 1 0;cold 2;fur 3;coughs 4;");
        x.speaks(0, 1);
        x.keep(0);
        x.saw(1, 1);
        due("house() at fault", Checks.house(x, "member 9 0;cold 3;fur 4;coughs 5;cold"), -43);
        due("COLD", x.told(0), 2);
        due("FUR", x.told(1), 3);
        due("COUGHS", x.told(2), 4);
        due("the coat", x.told(3), 0);
        due("MINUTES", x.told(4), 1);
        due("MEMBERS", x.count(0), 2);
        due("SECONDS", x.count(1), 1);
        due("SEEN", x.count(2), 1);
        due("UNDONE", x.count(3), 1);
        due("THE TEXT", x.count(4), 37);
        due("WARMTH", x.member(0, 0), 8);
        due("house() at fault again", x.house(), -43);
        // THE TEXT stayed, so that it can be gone on with
        due("gone on with", Checks.type(x, "ly 5;"), 42);
        due("house() of what stayed", x.house(), -43);
        due("undo()", x.undo(), 0);
        due("WARMTH", x.member(0, 0), 5);
        due("back(0)", x.back(0), 1);
    }

    private static void tellingAllAnew() {
        LastCoat x = Checks.told("member 5 1;member 6 0;seconds 1 0;cold 2;fur 3;coughs 4;");
        x.lot(99);
        x.speaks(0, 1);
        x.lining();
        x.keep(0);
        x.keep(1);
        x.saw(1, 1);
        x.rate(0, 0);
        due("house()", Checks.house(x, "member 9 0;"), 1);
        due("COLD as at first", x.told(0), 1);
        due("FUR as at first", x.told(1), 1);
        due("COUGHS as at first", x.told(2), 0);
        due("the coat hangs", x.told(3), LastCoat.NONE);
        due("MINUTES", x.told(4), 0);
        due("MEMBERS", x.count(0), 1);
        due("SECONDS", x.count(1), 0);
        due("SEEN", x.count(2), 0);
        due("UNDONE", x.count(3), 0);
        due("THE TEXT is empty", x.count(4), 0);
        due("WARMTH", x.member(0, 0), 9);
        due("SIDE", x.member(0, 1), 0);
        due("back(0)", x.back(0), LastCoat.STATE);
        due("back(1)", x.back(1), LastCoat.STATE);
        due("undo()", x.undo(), LastCoat.STATE);
        due("THE TRACE goes on", x.trace(), 1);
        due("THE LOT stays", x.lot(1), 99);
        due("house() of nothing", x.house(), 0);
        due("MEMBERS of nothing", x.count(0), 0);
        readingsLeaveNothing();
    }

    /** However often an object was told, nothing of what it was told before is left, of faults neither. */
    private static void readingsLeaveNothing() {
        LastCoat x = new LastCoat();
        for (int i = 1; i <= 4; i++) {
            due("house() " + i, Checks.house(x, "member 7 1;member 9 1;seconds 1 0;cold 3;fur 4;coughs 5;"), 6);
            due("house() at fault " + i, Checks.house(x, "member 9 1;member 9 1;seconds 0 1;cold 2;cold 2;"), -51);
            due("house() " + i + ", less", Checks.house(x, "member 4 0;member 4 0;"), 2);
            due("WARMTH", x.member(0, 0), 4);
            due("WARMTH", x.member(1, 0), 4);
            due("SIDE", x.member(0, 1) + x.member(1, 1), 0);
            due("who seconds", x.member(0, 3) + x.member(1, 3), 0);
            due("SECONDS", x.count(1), 0);
            due("COLD", x.told(0), 1);
            due("FUR", x.told(1), 1);
            due("COUGHS", x.told(2), 0);
        }
    }

    private static void membersAnswers() {
        LastCoat x = Checks.told("member 1 1;member 20 0;member 3 1;seconds 0 1;seconds 2 1;seconds 0 1;seconds 1 2;cold 3;");
        due("count(1)", x.count(1), 4);
        int[][] want = {{1, 1, 0, 0}, {20, 0, 0, 2}, {3, 1, 0, 1}};
        for (int m = 0; m < 3; m++) {
            for (int what = 0; what < 4; what++) {
                due("member(" + m + ", " + what + ")", x.member(m, what), want[m][what]);
            }
            due("member(" + m + ", 4)", x.member(m, 4), LastCoat.BAD);
            due("member(" + m + ", -1)", x.member(m, -1), LastCoat.BAD);
        }
        due("member(3, 0)", x.member(3, 0), LastCoat.BAD);
        due("member(-1, 0)", x.member(-1, 0), LastCoat.BAD);
        due("member(MIN, 0)", x.member(Integer.MIN_VALUE, 0), LastCoat.BAD);
        due("member(MAX, 3)", x.member(Integer.MAX_VALUE, 3), LastCoat.BAD);
        due("member(0, MAX)", x.member(0, Integer.MAX_VALUE), LastCoat.BAD);
        x.pause(1);
        due("WARMTH 0", x.member(0, 0), 0);
        due("FROZEN", x.member(0, 2), 1);
        due("just as warm as COLD", x.member(2, 2), 1);
        due("not FROZEN", x.member(1, 2), 0);
        due("WARMTH 17", x.member(1, 0), 17);
        due("who seconds stays", x.member(1, 3), 2);
    }

    private static void toldAnswers() {
        LastCoat x = Checks.told("cold 4;fur 3;coughs 2;member 5 0;member 4 0;member 20 1;member 1 1;");
        due("told(0)", x.told(0), 4);
        due("told(1)", x.told(1), 3);
        due("told(2)", x.told(2), 2);
        due("told(3)", x.told(3), LastCoat.NONE);
        due("told(4)", x.told(4), 0);
        due("told(5)", x.told(5), 0);
        due("told(6)", x.told(6), LastCoat.BAD);
        due("told(-1)", x.told(-1), LastCoat.BAD);
        due("told(MIN)", x.told(Integer.MIN_VALUE), LastCoat.BAD);
        x.lining();
        x.speaks(2, 1);
        due("FUR NOW", x.told(1), 4);
        due("who wears the coat", x.told(3), 2);
        due("MINUTES", x.told(4), 1);
        due("FROZEN, as bits", x.told(5), 10);
    }
}
