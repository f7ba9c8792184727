/** Promises 20 to 24: kinds, images, counts, THE TRACE; and the constants. */
public final class KindTest {
    private static final Checks CHECKS = new Checks("KindTest");

    public static void main(String[] args) {
        constants();
        rates();
        ratesBelowNought();
        ratesRefused();
        traces();
        images();
        imagesAreTwo();
        imagesKeepTheLot();
        imagesAreNotUndone();
        imagesRefused();
        counts();
        CHECKS.end();
    }

    private static void due(String call, long got, long want) {
        CHECKS.due(call, got, want);
    }

    private static void constants() {
        due("BAD", LastCoat.BAD, -1);
        due("STATE", LastCoat.STATE, -2);
        due("FULL", LastCoat.FULL, -3);
        due("NONE", LastCoat.NONE, -9);
        due("NO", LastCoat.NO, -1000000);
    }

    private static void rates() {
        LastCoat x = Checks.told("member 5 1;member 7 0;member 9 0;cold 2;fur 3;seconds 1 0;seconds 2 0;seconds 1 0;seconds 0 2;");
        int[][] want = {
            {5, 7, 3, 14, 3, 8},
            {7, 7, 5, 14, 6, 10},
            {9, 10, 7, 20, 9, 12}};
        for (int m = 0; m < 3; m++) {
            for (int kind = 0; kind < 6; kind++) {
                due("rate(" + kind + ", " + m + ")", x.rate(kind, m), want[m][kind]);
            }
        }
        x.lining();
        x.speaks(2, 1);
        due("WARMTH NOW", x.rate(0, 2), 13);
        due("WARMTH NOW", x.rate(3, 1), 10);
        due("FUR NOW", x.rate(5, 2), 17);
        due("less COLD", x.rate(2, 0), 3);
    }

    private static void ratesBelowNought() {
        LastCoat x = Checks.told("member 1 1;member 2 0;cold 5;");
        due("rate(2, 0)", x.rate(2, 0), -4);
        due("rate(4, 1)", x.rate(4, 1), -2);
        x.pause(1);
        due("of one who is FROZEN", x.rate(2, 0), -5);
        due("of one who is FROZEN", x.rate(0, 0), 0);
    }

    private static void ratesRefused() {
        LastCoat x = Checks.told("member 1 1;");
        due("rate(6, 0)", x.rate(6, 0), LastCoat.NO);
        due("rate(-1, 0)", x.rate(-1, 0), LastCoat.NO);
        due("rate(MIN, 0)", x.rate(Integer.MIN_VALUE, 0), LastCoat.NO);
        due("rate(MAX, 0)", x.rate(Integer.MAX_VALUE, 0), LastCoat.NO);
        due("rate(0, 1)", x.rate(0, 1), LastCoat.NO);
        due("rate(0, -1)", x.rate(0, -1), LastCoat.NO);
        due("rate(0, MIN)", x.rate(0, Integer.MIN_VALUE), LastCoat.NO);
        due("rate(0, MAX)", x.rate(0, Integer.MAX_VALUE), LastCoat.NO);
        due("trace()", x.trace(), 0);
    }

    private static void traces() {
        int[] want = {1, 11, 101, 1011, 10101, 100001};
        long sum = 0;
        LastCoat all = Checks.told("member 1 1;");
        for (int kind = 0; kind < 6; kind++) {
            LastCoat x = Checks.told("member 1 1;");
            x.rate(kind, 0);
            due("trace() behind rate(" + kind + ", 0)", x.trace(), want[kind]);
            all.rate(kind, 0);
            sum += want[kind];
            due("trace() of all to " + kind, all.trace(), sum);
        }
        all.keep(0);
        all.rate(0, 0);
        due("keep() keeps no TRACE", all.back(0), 0);
        due("back() takes none", all.trace(), sum + 1);
        all.speaks(0, 1);
        all.rate(0, 0);
        all.undo();
        due("undo() takes none", all.trace(), sum + 2);
        Checks.house(all, "member 4 0;");
        due("house() takes none", all.trace(), sum + 2);
    }

    private static void images() {
        LastCoat x = Checks.told("member 5 1;member 9 0;fur 2;");
        x.speaks(0, 2);
        due("keep(0)", x.keep(0), 2);
        x.lining();
        x.speaks(1, 4);
        x.saw(2, 1);
        Checks.type(x, "fur 1;");
        due("0 froze not yet", x.member(0, 0), 5);
        due("back(0)", x.back(0), 2);
        due("WARMTH", x.member(0, 0), 9);
        due("WARMTH", x.member(1, 0), 7);
        due("the coat", x.told(3), 0);
        due("FUR", x.told(1), 2);
        due("MINUTES", x.told(4), 2);
        due("nothing else: SEEN", x.count(2), 1);
        due("nothing else: THE TEXT", x.count(4), 6);
        x.pause(3);
        due("an image stays", x.back(0), 2);
        due("WARMTH", x.member(0, 0), 9);
        x.pause(1);
        due("kept anew", x.keep(0), 3);
        x.pause(1);
        due("back(0)", x.back(0), 3);
        due("WARMTH", x.member(0, 0), 11);
    }

    private static void imagesAreTwo() {
        LastCoat x = Checks.told("member 5 1;");
        due("keep(0)", x.keep(0), 0);
        due("back(1) of none", x.back(1), LastCoat.STATE);
        x.speaks(0, 1);
        due("keep(1)", x.keep(1), 1);
        x.speaks(0, 1);
        due("back(0)", x.back(0), 0);
        due("the coat hangs", x.told(3), LastCoat.NONE);
        due("back(1)", x.back(1), 1);
        due("the coat", x.told(3), 0);
        due("WARMTH", x.member(0, 0), 6);
    }

    private static void imagesKeepTheLot() {
        LastCoat x = Checks.told("member 5 1;");
        x.lot(42);
        x.keep(0);
        x.speaks(0, 5);
        x.back(0);
        due("THE LOT as kept", x.lot(8), 42);
    }

    private static void imagesAreNotUndone() {
        LastCoat x = Checks.told("member 5 1;");
        x.speaks(0, 1);
        x.keep(0);
        due("keep() leaves what may be UNDONE", x.count(3), 1);
        due("undo()", x.undo(), 0);
        x.pause(1);
        due("back(0)", x.back(0), 1);
        due("nothing behind back()", x.count(3), 0);
        due("undo()", x.undo(), LastCoat.STATE);
        x.pause(1);
        due("undo() of what came then", x.undo(), 0);
        due("MINUTES", x.told(4), 1);
    }

    private static void imagesRefused() {
        LastCoat x = Checks.told("member 5 1;");
        x.pause(1);
        for (int image : new int[] {-1, 2, Integer.MIN_VALUE, Integer.MAX_VALUE}) {
            due("keep(" + image + ")", x.keep(image), LastCoat.BAD);
            due("back(" + image + ")", x.back(image), LastCoat.BAD);
        }
        due("back(0)", x.back(0), LastCoat.STATE);
        due("what is refused leaves what may be UNDONE", x.count(3), 1);
    }

    private static void counts() {
        LastCoat x = Checks.told("member 5 1;member 5 1;member 5 0;seconds 0 1;seconds 0 1;");
        due("count(0)", x.count(0), 3);
        due("count(1)", x.count(1), 2);
        x.saw(1, 1);
        due("count(2)", x.count(2), 1);
        x.pause(1);
        x.lining();
        x.speaks(0, 1);
        due("count(3)", x.count(3), 3);
        Checks.type(x, "abcdefghi");
        due("count(4)", x.count(4), 9);
        for (int what : new int[] {5, -1, Integer.MIN_VALUE, Integer.MAX_VALUE}) {
            due("count(" + what + ")", x.count(what), LastCoat.BAD);
        }
    }
}
