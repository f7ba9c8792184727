import java.util.ArrayList;
import java.util.List;

/**
 * Objects that lived through the same story. A call that is refused must leave the one just as the
 * other is; so both are asked everything then, until what is hidden (what may be UNDONE, IMAGES,
 * THE LOT, THE TEXT) has shown itself, too.
 */
final class Twins {
    /** The object's calls so far; some 150 at most, since it answers 512 in all. */
    interface Story {
        void tell(LastCoat x);
    }

    interface Call {
        long ask(LastCoat x);
    }

    /** Texts of six MEMBERS and of all ITEMS that there may be: 17 of them, 184 bytes. */
    static final String SIX = "member 9 1;member 8 0;member 7 1;member 6 0;member 5 1;member 4 0;";
    static final String ALL = SIX + "seconds 1 0;seconds 2 0;seconds 3 0;seconds 4 0;seconds 5 0;seconds 0 5;"
            + "seconds 0 5;seconds 0 5;cold 1;fur 1;coughs 0;";

    private final Checks checks;

    Twins(Checks checks) {
        this.checks = checks;
    }

    /** Three MEMBERS, one of them FROZEN; something of everything that there is, and room for more. */
    static void rich(LastCoat x) {
        Checks.house(x, "member 9 1;member 3 0;member 18 1;seconds 0 2;seconds 1 0;cold 2;fur 3;coughs 4;");
        x.lot(-77);
        x.speaks(2, 2);
        x.keep(0);
        x.lining();
        x.rate(3, 0);
        x.pause(1);
        x.lot(12345);
        x.saw(1, 0);
        x.saw(2, 2);
        Checks.type(x, "member 7 1;cold 5;fur ");
    }

    /** Six MEMBERS, and nothing has room for more: THE TEXT, SEEN, what may be UNDONE, FUR. */
    static void full(LastCoat x) {
        Checks.house(x, ALL);
        x.speaks(0, 1);
        x.keep(0);
        x.keep(1);
        for (int i = 0; i < 4; i++) {
            x.lining();
        }
        for (int i = 0; i < 6; i++) {
            x.saw(i, 0);
            x.speaks(i / 2, 1);
        }
        Checks.type(x, "member 20 1;fur 2;" + " ".repeat(182));
    }

    /** All of the two MEMBERS are FROZEN; nothing may be UNDONE, no IMAGE was kept but one. */
    static void cold(LastCoat x) {
        Checks.house(x, "member 1 1;member 2 1;");
        x.pause(2);
        x.keep(1);
        x.back(1);
    }

    /** The call is answered so, and behind it all is as if it had not been asked. */
    void unchanged(String name, Story story, Call call, long want) {
        LastCoat asked = new LastCoat();
        story.tell(asked);
        LastCoat other = new LastCoat();
        story.tell(other);
        checks.due(name, call.ask(asked), want);
        same(name, asked, other);
    }

    /** Both answer the same from now on. */
    void same(String name, LastCoat asked, LastCoat other) {
        List<String> calls = new ArrayList<>();
        List<Long> due = answers(other, calls);
        List<Long> got = answers(asked, new ArrayList<>());
        for (int i = 0; i < calls.size(); i++) {
            checks.due(name + ", behind it: " + calls.get(i), got.get(i), due.get(i));
        }
    }

    private static List<Long> answers(LastCoat x, List<String> calls) {
        Answers answers = new Answers(x, calls);
        answers.look("");
        answers.plans();
        answers.undoAll();
        answers.goBack(1);
        answers.goBack(0);
        answers.read();
        return answers.found;
    }

    private static final class Answers {
        private final LastCoat x;
        private final List<String> calls;
        private final List<Long> found = new ArrayList<>();

        Answers(LastCoat x, List<String> calls) {
            this.x = x;
            this.calls = calls;
        }

        private long is(String call, long answer) {
            calls.add(call);
            found.add(answer);
            return answer;
        }

        private void state(String when) {
            for (int what = 1; what <= 5; what++) {
                is(when + "told(" + what + ")", x.told(what));
            }
            for (int m = 0; m < 6; m++) {
                is(when + "member(" + m + ", 0)", x.member(m, 0));
            }
        }

        void look(String when) {
            state(when);
            is(when + "told(0)", x.told(0));
            for (int what = 0; what <= 4; what++) {
                is(when + "count(" + what + ")", x.count(what));
            }
            for (int m = 0; m < 6; m++) {
                is(when + "member(" + m + ", 1)", x.member(m, 1));
                is(when + "member(" + m + ", 3)", x.member(m, 3));
            }
            is(when + "trace()", x.trace());
            int lot = x.lot(0);
            is(when + "lot", lot);
            x.lot(lot);
        }

        void plans() {
            for (int i = -1; i < 5; i++) {
                is("carry(" + i + ")", x.carry(i));
                is("save(5, " + i + ")", x.save(5, i));
            }
            for (int i = 0; i < 6; i++) {
                is("worth(" + i + ")", x.worth(i));
                is("fits(" + i + ")", x.fits(i));
                is("game(" + i + ", 0)", x.game(i, 0));
                is("game(" + i + ", 1)", x.game(i, 1));
            }
        }

        void undoAll() {
            for (int i = 0; i < 12; i++) {
                if (is("undo() " + i, x.undo()) < 0) {
                    return;
                }
                state("undo() " + i + ", ");
            }
        }

        void goBack(int image) {
            is("back(" + image + ")", x.back(image));
            state("back(" + image + "), ");
            is("back(" + image + "), lot", x.lot(5));
        }

        void read() {
            is("house()", x.house());
            look("house(), ");
        }
    }
}
