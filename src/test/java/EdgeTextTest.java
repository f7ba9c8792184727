/**
 * The boundary cases of "1 MEMBERS" and of promises 1 to 6, a test for each sentence that names one;
 * the sentence stands above it.
 */
public final class EdgeTextTest {
    private static final Checks CHECKS = new Checks("EdgeTextTest");
    private static final Twins TWINS = new Twins(CHECKS);
    private static final String TWO = "member 9 1;member 8 0;";

    public static void main(String[] args) {
        aNewObjectIsAsTold();
        membersSixAtMost();
        warmthOneToTwenty();
        sideNoughtOrOne();
        coldNoughtToFive();
        furNoughtToFive();
        coughsNoughtToNine();
        whatIsNotToldIsAsAtFirst();
        secondsEightAtMost();
        secondsToldAgain();
        secondsOfTwoMembersUnlike();
        secondsOfWhoWasTold();
        onceEachAtMost();
        textOf200BytesAtMost();
        typeTakesOneToEight();
        typeTakesTheLowestBytesHighestFirst();
        clearOfNoneAndOfAll();
        blanksAnyNumber();
        blanksNeededOnlyBetween();
        itemsNoneToo();
        itemsAllThatThereMayBe();
        itemsEachEnded();
        bytesThatBeginTokens();
        bytesBesideLetters();
        bytesBesideNumbers();
        wordsThatAreNone();
        numbersAbove99OrWith0Ahead();
        theFirstFault();
        theFaultsPlaceLeastAndGreatest();
        textsThatEndTooEarly();
        aFaultLeavesAllAndTheText();
        memberAnswers();
        memberUnlikeSecondersMost();
        toldAnswers();
        CHECKS.end();
    }

    private static void due(String call, long got, long want) {
        CHECKS.due(call, got, want);
    }

    /** Taken: so many ITEMS, and THE TEXT is empty then. */
    private static LastCoat items(String text, int items) {
        LastCoat x = new LastCoat();
        due("house() of '" + text + "'", Checks.house(x, text), items);
        due("bytes behind house() of '" + text + "'", x.count(4), 0);
        return x;
    }

    /** At fault: told to an object of which something was told, and all of it is as it was. */
    private static void fault(String text, int place) {
        TWINS.unchanged("house() of '" + text + "'", x -> {
            Twins.rich(x);
            x.clear();
            Checks.type(x, text);
        }, LastCoat::house, -10 - place);
    }

    // "A new object: As told; no MEMBERS."
    private static void aNewObjectIsAsTold() {
        LastCoat x = new LastCoat();
        LastCoat told = items("", 0);
        TWINS.same("a new object beside one of which nothing was told", x, told);
        due("MEMBERS", new LastCoat().count(0), 0);
        due("the first one", new LastCoat().member(0, 0), LastCoat.BAD);
        due("THE LOT at first", new LastCoat().lot(0), 1);
        due("THE TRACE at first", new LastCoat().trace(), 0);
        due("the coat hangs", new LastCoat().told(3), LastCoat.NONE);
    }

    // "MEMBERS (6 at most)", "a seventh member"
    private static void membersSixAtMost() {
        String five = "member 1 1;member 2 1;member 3 1;member 4 1;member 5 1;";
        due("five", items(five, 5).count(0), 5);
        LastCoat six = items(five + "member 6 0;", 6);
        due("six", six.count(0), 6);
        due("the sixth", six.member(5, 0), 6);
        due("a seventh", six.member(6, 0), LastCoat.BAD);
        fault(five + "member 6 0;member 7 0;", 66);
        fault(five + "member 6 0; member", 67);
        // the word is at fault ahead of what follows it
        fault(five + "member 6 0;member 99 99", 66);
        items(five + "member 6 0;cold 1;", 7);
    }

    // "WARMTH (1 .. 20)"
    private static void warmthOneToTwenty() {
        fault("member 0 1;", 7);
        due("1", items("member 1 1;", 1).member(0, 0), 1);
        due("2", items("member 2 1;", 1).member(0, 0), 2);
        due("19", items("member 19 1;", 1).member(0, 0), 19);
        due("20", items("member 20 1;", 1).member(0, 0), 20);
        fault("member 21 1;", 7);
        LastCoat six = items("member 20 1;member 1 1;member 20 1;member 1 1;member 20 1;member 1 1;", 6);
        for (int m = 0; m < 6; m++) {
            due("WARMTH of " + m, six.member(m, 0), m % 2 == 0 ? 20 : 1);
        }
    }

    // "SIDE (0 against the MOTION, 1 for it)"
    private static void sideNoughtOrOne() {
        due("0", items("member 5 0;", 1).member(0, 1), 0);
        due("1", items("member 5 1;", 1).member(0, 1), 1);
        due("0 is against it", items("member 5 0;", 1).vote(), 0);
        due("1 is for it", items("member 5 1;", 1).vote(), 1);
        fault("member 5 2;", 9);
        fault("member 5 10;", 9);
        fault("member 5 -1;", 9);
    }

    // "COLD (0 .. 5; 1 at first)"
    private static void coldNoughtToFive() {
        for (int cold = 0; cold <= 5; cold++) {
            LastCoat x = items("member 9 1;cold " + cold + ";", 2);
            due("COLD", x.told(0), cold);
            x.pause(1);
            due("behind a MINUTE of COLD " + cold, x.member(0, 0), 9 - cold);
        }
        fault("cold 6;", 5);
    }

    // "FUR (0 .. 5; 1 at first)"
    private static void furNoughtToFive() {
        for (int fur = 0; fur <= 5; fur++) {
            LastCoat x = items("member 9 1;fur " + fur + ";", 2);
            due("FUR", x.told(1), fur);
            x.speaks(0, 1);
            due("behind a MINUTE of FUR " + fur, x.member(0, 0), 9 + fur);
        }
        fault("fur 6;", 4);
    }

    // "COUGHS (0 .. 9 in 10; 0 at first)"
    private static void coughsNoughtToNine() {
        for (int coughs = 0; coughs <= 9; coughs++) {
            due("COUGHS", items("coughs " + coughs + ";", 1).told(2), coughs);
        }
        fault("coughs 10;", 7);
    }

    // "1 at first", "0 at first"; "what is not told as at first"
    private static void whatIsNotToldIsAsAtFirst() {
        LastCoat x = items("cold 5;fur 5;coughs 9;member 5 1;", 4);
        due("house() of 'fur 4;'", Checks.house(x, "fur 4;"), 1);
        due("COLD", x.told(0), 1);
        due("FUR", x.told(1), 4);
        due("COUGHS", x.told(2), 0);
        due("MEMBERS", x.count(0), 0);
        due("house() of nothing", x.house(), 0);
        due("COLD", x.told(0), 1);
        due("FUR", x.told(1), 1);
        due("COUGHS", x.told(2), 0);
    }

    // "SECONDS (8 at most ..)", "a ninth seconds"
    private static void secondsEightAtMost() {
        String seven = TWO + "seconds 0 1;seconds 1 0;seconds 0 1;seconds 1 0;seconds 0 1;seconds 1 0;seconds 0 1;";
        due("seven", items(seven, 9).count(1), 7);
        due("eight", items(seven + "seconds 1 0;", 10).count(1), 8);
        fault(seven + "seconds 1 0;seconds 0 1;", 22 + 8 * 12);
        fault(seven + "seconds 1 0;  seconds", 22 + 8 * 12 + 2);
        fault(seven + "seconds 1 0;seconds 9 9", 22 + 8 * 12);
        items(seven + "seconds 1 0;member 1 1;", 11);
        due("none", items(TWO, 2).count(1), 0);
    }

    // "told again: one more of these, the same two MEMBERS"
    private static void secondsToldAgain() {
        LastCoat once = items(TWO + "seconds 0 1;", 3);
        LastCoat twice = items(TWO + "seconds 0 1;seconds 0 1;", 4);
        due("once", once.count(1), 1);
        due("twice", twice.count(1), 2);
        due("once, who seconds 1", once.member(1, 3), 1);
        due("twice, who seconds 1", twice.member(1, 3), 1);
        due("nobody seconds 0", twice.member(0, 3), 0);
        LastCoat both = items(TWO + "seconds 0 1;seconds 1 0;seconds 0 1;", 5);
        due("each the other: 1", both.member(1, 3), 1);
        due("each the other: 0", both.member(0, 3), 1);
        due("each the other: SECONDS", both.count(1), 3);
    }

    // "seconds A B (two MEMBERS, unlike)", "a B that is A"
    private static void secondsOfTwoMembersUnlike() {
        fault(TWO + "seconds 0 0;", 32);
        fault(TWO + "seconds 1 1;", 32);
        items(TWO + "seconds 0 1;", 3);
        items(TWO + "seconds 1 0;", 3);
        fault("member 1 1;seconds 0 0;", 21);
        String six = Twins.SIX;
        for (int a = 0; a < 6; a++) {
            for (int b = 0; b < 6; b++) {
                String text = six + "seconds " + a + " " + b + ";";
                if (a == b) {
                    fault(text, 76);
                } else {
                    LastCoat x = items(text, 7);
                    x.speaks(b, 1);
                    due(text + " while B speaks", x.member(a, 0), 9 - a);
                    x.speaks(a, 1);
                    due(text + " while A speaks", x.member(b, 0), 9 - b);
                }
            }
        }
    }

    // "an A, B that was not told"
    private static void secondsOfWhoWasTold() {
        fault("seconds 0 1;", 8);
        fault("member 1 1;seconds 0 1;", 21);
        fault("member 1 1;seconds 1 0;", 19);
        fault(TWO + "seconds 1 2;", 32);
        fault(TWO + "seconds 2 1;", 30);
        fault(TWO + "seconds 99 1;", 30);
        fault(TWO + "seconds 1 99;", 32);
        items(TWO + "seconds 1 0;", 3);
        fault(Twins.SIX + "seconds 6 0;", 74);
        fault(Twins.SIX + "seconds 0 6;", 76);
        items(Twins.SIX + "seconds 5 0;seconds 0 5;", 8);
        // he is told only behind it
        fault("member 1 1;seconds 0 1;member 1 1;", 21);
        fault("seconds 0 1;member 1 1;member 1 1;", 8);
    }

    // "cold N, fur N, coughs N (once each at most)", "what is told again that may not"
    private static void onceEachAtMost() {
        items("cold 1;fur 1;coughs 1;", 3);
        fault("cold 1;fur 1;coughs 1;cold 1;", 22);
        fault("cold 1;fur 1;coughs 1;fur 1;", 22);
        fault("cold 1;fur 1;coughs 1;coughs 1;", 22);
        fault("cold 0;cold 0;", 7);
        fault("fur 0;fur 0;", 6);
        fault("coughs 0;coughs 0;", 9);
        fault("fur 1;  fur", 8);
        // one more reading may tell them again
        LastCoat x = items("cold 2;fur 2;coughs 2;", 3);
        due("the next reading", Checks.house(x, "cold 3;fur 3;coughs 3;"), 3);
        due("its COLD", x.told(0), 3);
        due("at fault", Checks.house(x, "coughs 4;;"), -19);
        due("the one behind the fault", Checks.house(x, "coughs 5;"), 1);
        due("its COUGHS", x.told(2), 5);
    }

    // "a text (200 bytes at most)"; type(): "FULL"
    private static void textOf200BytesAtMost() {
        for (int n = 1; n <= 8; n++) {
            LastCoat x = new LastCoat();
            due("199 - n", Checks.type(x, " ".repeat(199 - n)), 199 - n);
            due("to 199", x.type(0x2020202020202020L, n), 199);
            due("to 200", x.type(0x20L, 1), 200);
            due("to 200 + n", x.type(0x2020202020202020L, n), LastCoat.FULL);
            due("still", x.count(4), 200);
            due("house()", x.house(), 0);
            due("200 - n", Checks.type(x, " ".repeat(200 - n)), 200 - n);
            due("just to 200", x.type(0x2020202020202020L, n), 200);
            x.clear();
            due("201 - n", Checks.type(x, " ".repeat(201 - n)), 201 - n);
            due("to 201", x.type(0x2020202020202020L, n), LastCoat.FULL);
            due("201 - n stays", x.count(4), 201 - n);
        }
        LastCoat y = new LastCoat();
        Checks.type(y, "x".repeat(193));
        due("8 at 193", y.type(0x3B3B3B3B3B3B3B3BL, 8), LastCoat.FULL);
        due("7 at 193", y.type(0x3B3B3B3B3B3B3BL, 7), 200);
    }

    // "The lowest n (1 .. 8) bytes of v"
    private static void typeTakesOneToEight() {
        due("0", new LastCoat().type(0x20L, 0), LastCoat.BAD);
        for (int n = 1; n <= 8; n++) {
            LastCoat x = new LastCoat();
            due("type(.., " + n + ")", x.type(0x2020202020202020L, n), n);
            due("type(.., " + n + ") again", x.type(0x2020202020202020L, n), 2 * n);
            due("house()", x.house(), 0);
        }
        due("9", new LastCoat().type(0x20L, 9), LastCoat.BAD);
    }

    // "The lowest n bytes of v, the highest of them first"
    private static void typeTakesTheLowestBytesHighestFirst() {
        String text = "member 12 1;";
        for (int n = 1; n <= 8; n++) {
            for (long above : new long[] {0L, -1L, 0x3B3B3B3B3B3B3B3BL, Long.MIN_VALUE}) {
                LastCoat x = new LastCoat();
                long v = above;
                for (int i = 0; i < n; i++) {
                    v = v << 8 | text.charAt(i);
                }
                due("type(" + v + ", " + n + ")", x.type(v, n), n);
                due("and what follows", Checks.type(x, text.substring(n)), 12);
                due("house()", x.house(), 1);
                due("WARMTH", x.member(0, 0), 12);
            }
        }
        LastCoat x = new LastCoat();
        x.type(-1L, 8);
        due("eight bytes of 255", x.house(), -10);
        x.clear();
        x.type(0x20202020202020FFL, 8);
        due("the lowest comes last", x.house(), -17);
        x.clear();
        x.type(Long.MIN_VALUE | 0x20202020202020L, 8);
        due("the highest comes first", x.house(), -10);
        x.clear();
        x.type(0x8020202020202020L, 7);
        due("the eighth does not come", x.house(), 0);
    }

    // "THE TEXT is empty: how many bytes it had."
    private static void clearOfNoneAndOfAll() {
        LastCoat x = new LastCoat();
        due("none", x.clear(), 0);
        x.type(0x3BL, 1);
        due("one", x.clear(), 1);
        Checks.type(x, ";".repeat(200));
        due("200", x.clear(), 200);
        due("none again", x.clear(), 0);
        due("none is left", x.house(), 0);
        Checks.type(x, "cold 2;");
        x.house();
        due("none behind house()", x.clear(), 0);
        Checks.type(x, "cold 9;");
        due("at fault", x.house(), -15);
        due("seven behind a FAULT", x.clear(), 7);
        due("COLD is as told before", x.told(0), 2);
        // clear() changes nothing else
        LastCoat one = new LastCoat();
        LastCoat other = new LastCoat();
        Twins.rich(one);
        Twins.rich(other);
        due("clear()", one.clear(), 22);
        due("clear()", other.clear(), 22);
        due("clear() of none", one.clear(), 0);
        TWINS.same("clear() of none", one, other);
    }

    // "blanks (32), any number, ahead of, between, behind TOKENS"
    private static void blanksAnyNumber() {
        items("cold 2;", 1);
        items("cold2;", 1);
        due("many", items("   cold   2   ;   ", 1).told(0), 2);
        due("ahead of all: 193 of them", items(" ".repeat(193) + "cold 3;", 1).told(0), 3);
        due("between: 194 of them", items("cold" + " ".repeat(194) + "3;", 1).told(0), 3);
        due("between: 194 of them", items("cold3" + " ".repeat(194) + ";", 1).told(0), 3);
        due("behind all: 193 of them", items("cold 3;" + " ".repeat(193), 1).told(0), 3);
        fault("cold\t3;", 4);
        fault("\ncold 3;", 0);
        fault("cold 3;\r", 7);
        fault("cold\u00a03;", 4);
        fault("cold\u001f3;", 4);
        fault("cold!3;", 4);
    }

    // "needed only between two rows of letters, two NUMBERS"
    private static void blanksNeededOnlyBetween() {
        LastCoat x = items("member12 1;member3 0;seconds1 0;cold2;fur3;coughs4;", 6);
        due("WARMTH", x.member(0, 0), 12);
        due("SIDE", x.member(0, 1), 1);
        due("seconds", x.member(0, 3), 1);
        due("COLD", x.told(0), 2);
        fault("member 121;", 7);
        fault("member 12;", 9);
        items("member 1 1;", 1);
        fault("member 5 1;member 6 0;seconds 10;", 30);
        fault("coldfur 1;", 0);
        fault("cold fur 1;", 5);
    }

    // "ITEMS (none, too)"
    private static void itemsNoneToo() {
        items("", 0);
        items(" ", 0);
        items(" ".repeat(200), 0);
        LastCoat x = Checks.told("member 5 1;cold 3;");
        x.speaks(0, 1);
        x.saw(0, 0);
        x.keep(0);
        due("house() of nothing", x.house(), 0);
        LastCoat never = new LastCoat();
        TWINS.same("nothing told anew", x, never);
    }

    // six MEMBERS, eight SECONDS, cold, fur, coughs: as many ITEMS as can be, in as many bytes
    private static void itemsAllThatThereMayBe() {
        items(Twins.ALL, 17);
        items(Twins.ALL + " ".repeat(16), 17);
        items(" ".repeat(16) + Twins.ALL, 17);
        for (String more : new String[] {"member", "seconds", "cold", "fur", "coughs"}) {
            fault(Twins.ALL + more, 184);
        }
    }

    // "each ended by ;"
    private static void itemsEachEnded() {
        items("cold 1;", 1);
        fault("cold 1", 6);
        fault("cold 1 fur 1;", 7);
        fault("cold 1 1;", 7);
        items("cold 1;fur 1;", 2);
        fault("cold 1;;", 7);
        fault(";", 0);
        fault("cold;", 4);
        fault("member 1;", 8);
        fault("member 1 1 1;", 11);
        fault("member;", 6);
        fault(TWO + "seconds;", 29);
        fault(TWO + "seconds 0;", 31);
        fault(TWO + "seconds 0 1 0;", 34);
        items(TWO + "seconds 0 1 ;", 3);
    }

    // "of a byte that begins none ..., that TOKEN's": each byte that there is, alone
    private static void bytesThatBeginTokens() {
        for (int b = 0; b < 256; b++) {
            LastCoat x = new LastCoat();
            x.type(b, 1);
            due("house() of the byte " + b, x.house(), b == 32 ? 0 : -10);
            due("bytes behind it", x.count(4), b == 32 ? 0 : 1);
        }
    }

    // "words of letters a .. z": a letter behind a word makes another word of it, any other byte does not
    private static void bytesBesideLetters() {
        for (int b = 0; b < 256; b++) {
            boolean letter = b >= 97 && b <= 122;
            String text = "cold" + (char) b + "1;";
            if (b == 32) {
                items(text, 1);
            } else {
                fault(text, letter ? 0 : 4);
            }
            fault("cold 1;" + (char) b + "fur1;;", b == 32 ? 13 : 7);
        }
    }

    // "NUMBERS": a digit behind a NUMBER makes another one of it, any other byte does not
    private static void bytesBesideNumbers() {
        for (int b = 0; b < 256; b++) {
            boolean digit = b >= 48 && b <= 57;
            String text = "cold 1" + (char) b + ";";
            if (b == 32) {
                items(text, 1);
            } else {
                fault(text, digit ? 5 : b == 59 ? 7 : 6);
            }
        }
        for (int digit = 0; digit <= 9; digit++) {
            due("the digit " + digit, items("coughs " + digit + ";", 1).told(2), digit);
            due("member 1" + digit, items("member 1" + digit + " 1;", 1).member(0, 0), 10 + digit);
        }
    }

    // "a word that is none of these": one letter less, one more, another one
    private static void wordsThatAreNone() {
        String[] words = {"member", "seconds", "cold", "fur", "coughs"};
        for (String word : words) {
            int n = word.length();
            for (int i = 0; i < n; i++) {
                fault(TWO + word.substring(0, i) + word.substring(i + 1) + " 0 1;", 22);
                fault(TWO + word.substring(0, i) + (char) (word.charAt(i) + 1) + word.substring(i + 1) + " 0 1;", 22);
                fault(TWO + word.substring(0, i) + (char) (word.charAt(i) - 32) + word.substring(i + 1) + " 0 1;", 22);
            }
            fault(TWO + word + "s 0 1;", 22);
            fault(TWO + "a" + word + " 0 1;", 22);
            fault(TWO + word + word + " 0 1;", 22);
            fault("cold " + word + ";", 5);
        }
        fault("z", 0);
        fault("a".repeat(200), 0);
    }

    // "a NUMBER above 99 or with a 0 ahead of others"
    private static void numbersAbove99OrWith0Ahead() {
        items("cold 0;", 1);
        fault("cold 00;", 5);
        fault("cold 01;", 5);
        fault("cold 001;", 5);
        fault("member 5 00;", 9);
        fault("member 5 01;", 9);
        fault("member 05 1;", 7);
        items("member 10 1;", 1);
        items("member 20 1;", 1);
        fault("member 020 1;", 7);
        fault("member 99 1;", 7);
        fault("member 100 1;", 7);
        fault("member 101 1;", 7);
        // numbers that wrap around to some that could stand there
        for (String number : new String[] {"256", "257", "65537", "4294967296", "4294967297", "18446744073709551616",
            "18446744073709551617", "1" + "0".repeat(64), "9".repeat(180)}) {
            fault("cold " + number + ";", 5);
            fault("member 5 " + number + ";", 9);
        }
        fault("cold " + "0".repeat(190) + "1;", 5);
        // where no NUMBER can stand, a wrong one is at fault there, too
        fault("100;", 0);
        fault("cold 1 100;", 7);
        fault("cold 1 00;", 7);
    }

    // "FAULT: the place of the first byte of the first TOKEN that can't stand there"
    private static void theFirstFault() {
        fault("member 0 2;", 7);
        fault("member 1 2;#", 9);
        fault("cold 6 #", 5);
        fault("#cold 6;", 0);
        fault("cold 1;fur 6;coughs 10;", 11);
        fault("fur 1;cold 1;cold 7;", 13);
        fault(TWO + "seconds 2 2;", 30);
        fault("cold 12345 7", 5);
        fault("  member   21 2;", 11);
    }

    // -10 less FAULT, at its least and at its greatest
    private static void theFaultsPlaceLeastAndGreatest() {
        fault(";", 0);
        fault(" ;", 1);
        fault(" ".repeat(198) + ";", 198);
        fault(" ".repeat(199) + ";", 199);
        fault(" ".repeat(196) + "cold", 200);
        fault("cold" + " ".repeat(196), 200);
        fault("cold" + " ".repeat(195), 199);
    }

    // "the text's length, if it ends too early": every text that the longest one begins with
    private static void textsThatEndTooEarly() {
        String all = Twins.ALL;
        int items = 0;
        int begin = 0;
        for (int length = 0; length <= all.length(); length++) {
            if (length > 0 && all.charAt(length - 1) == ';') {
                items++;
                begin = length;
            }
            String text = all.substring(0, length);
            int word = begin;
            while (all.length() > word && all.charAt(word) >= 'a') {
                word++;
            }
            if (length == begin) {
                items(text, items);
                items(text + "  ", items);
            } else if (length < word) {
                // a word that was cut off is one that is none of these
                fault(text, begin);
                fault(text + "  ", begin);
            } else {
                fault(text, length);
                fault(text + "   ", length + 3);
            }
        }
        due("ITEMS", items, 17);
    }

    // "-10 less FAULT: nothing changes (THE TEXT stays, too)"
    private static void aFaultLeavesAllAndTheText() {
        LastCoat x = Checks.told("member 5 1;fur 2;");
        Checks.type(x, "member 6 0;col");
        due("cut off", x.house(), -21);
        due("again", x.house(), -21);
        due("bytes", x.count(4), 14);
        due("WARMTH", x.member(0, 0), 5);
        due("gone on with", Checks.type(x, "d 2"), 17);
        due("ends too early", x.house(), -27);
        due("FUR", x.told(1), 2);
        due("gone on with", Checks.type(x, ";"), 18);
        due("whole", x.house(), 2);
        due("WARMTH", x.member(0, 0), 6);
        due("FUR", x.told(1), 1);
        due("COLD", x.told(0), 2);
        due("bytes", x.count(4), 0);
        due("house() of what is left", x.house(), 0);
    }

    // "Of a MEMBER: 0 WARMTH NOW, 1 SIDE, 2 whether he is FROZEN, 3 how many unlike MEMBERS second him. BAD."
    private static void memberAnswers() {
        LastCoat x = Checks.told("member 1 0;member 2 1;seconds 0 1;");
        int[][] first = {{1, 0, 0, 0}, {2, 1, 0, 1}};
        int[][] then = {{0, 0, 1, 0}, {1, 1, 0, 1}};
        for (int m = 0; m <= 2; m++) {
            for (int what = -1; what <= 4; what++) {
                due("member(" + m + ", " + what + ")", x.member(m, what),
                    m == 2 || what < 0 || what > 3 ? LastCoat.BAD : first[m][what]);
            }
        }
        x.pause(1);
        for (int m = -1; m < 2; m++) {
            for (int what = -1; what <= 4; what++) {
                due("then member(" + m + ", " + what + ")", x.member(m, what),
                    m < 0 || what < 0 || what > 3 ? LastCoat.BAD : then[m][what]);
            }
        }
    }

    // "3 how many unlike MEMBERS second him": none, all five others, however often
    private static void memberUnlikeSecondersMost() {
        LastCoat x = Checks.told(Twins.ALL);
        due("all five others", x.member(0, 3), 5);
        due("none", x.member(1, 3), 0);
        due("one, three times", x.member(5, 3), 1);
        due("SECONDS", x.count(1), 8);
        x.pause(9);
        due("most are FROZEN", x.told(5), 63);
        due("and second him", x.member(0, 3), 5);
    }

    // "0 COLD, 1 FUR NOW, 2 COUGHS, 3 who wears the COAT (NONE), 4 MINUTES that went by, 5 who is FROZEN (bits). BAD."
    private static void toldAnswers() {
        LastCoat x = Checks.told(Twins.SIX + "cold 5;fur 4;coughs 9;");
        long[] first = {LastCoat.BAD, 5, 4, 9, LastCoat.NONE, 0, 0, LastCoat.BAD};
        for (int what = -1; what <= 6; what++) {
            due("told(" + what + ")", x.told(what), first[what + 1]);
        }
        x.lining();
        x.speaks(5, 1);
        long[] then = {LastCoat.BAD, 5, 5, 9, 5, 1, 16, LastCoat.BAD};
        for (int what = -1; what <= 6; what++) {
            due("then told(" + what + ")", x.told(what), then[what + 1]);
        }
        x.pause(9);
        due("all but the wearer", x.told(5), 31);
        due("MINUTES", x.told(4), 10);
        LastCoat y = Checks.told(Twins.SIX);
        y.pause(9);
        due("all six", y.told(5), 63);
        due("nobody", new LastCoat().told(5), 0);
    }
}
