/**
 * The coat of the last speaker: a parliament with one coat, worn by whoever began to speak last.
 *
 * <p>../shared/DOC.md says what each call answers; the words in capitals here are its words.
 */
public final class LastCoat {
    public static final int BAD = -1, STATE = -2, FULL = -3, NONE = -9;
    /** What none is, where a number may be below 0. */
    public static final int NO = -1000000;

    /** What a plan answers of a MINUTE that it has not, and WORTH where CARRY has none without him. */
    private static final int LACKING = -5;
    private static final int FAULT_BASE = -10;

    private static final int MOST_MEMBERS = 6;
    private static final int MOST_SECONDS = 8;
    private static final int MOST_WARMTH = 20;
    private static final int MOST_COLD = 5;
    private static final int MOST_FUR = 5;
    private static final int MOST_COUGHS = 9;
    private static final int MOST_BYTES = 200;
    private static final int MOST_SEEN = 6;
    private static final int MOST_UNDONE = 10;
    private static final int LONGEST_PLAN = 5;
    private static final int LONGEST_SPEECH = 9;
    private static final int BYTES_OF_A_LONG = 8;
    private static final int IMAGES = 2;

    private final Text text;
    private Parliament parliament;
    /** Where the next reading of THE TEXT is written, so that a FAULT leaves the parliament as it is. */
    private Parliament draft;
    private final Now now;
    private final Past past;
    private final Seen seen;
    private final Image[] images;
    private long trace;

    public LastCoat() {
        text = new Text();
        parliament = new Parliament();
        draft = new Parliament();
        now = new Now();
        past = new Past();
        seen = new Seen();
        images = new Image[IMAGES];
        for (int i = 0; i < images.length; i++) {
            images[i] = new Image();
        }
        beginAnew();
    }

    // ---- the house

    public int type(long v, int n) {
        if (n < 1 || n > BYTES_OF_A_LONG) {
            return BAD;
        }
        if (!text.hasRoomFor(n)) {
            return FULL;
        }
        for (int i = n - 1; i >= 0; i--) {
            text.add((byte) (v >> (8 * i)));
        }
        return text.length;
    }

    public int clear() {
        return text.drop();
    }

    public int house() {
        int answer = text.readInto(draft);
        if (answer < 0) {
            return answer;
        }
        Parliament former = parliament;
        parliament = draft;
        draft = former;
        text.drop();
        beginAnew();
        return answer;
    }

    public int member(int m, int what) {
        if (!parliament.has(m)) {
            return BAD;
        }
        switch (what) {
            case 0:
                return Parliament.warmthOf(m, now.warmth);
            case 1:
                return parliament.sideOf(m);
            case 2:
                return Parliament.isFrozen(m, now.warmth) ? 1 : 0;
            case 3:
                return Integer.bitCount(parliament.secondersOf(m));
            default:
                return BAD;
        }
    }

    public int told(int what) {
        switch (what) {
            case 0:
                return parliament.cold;
            case 1:
                return now.fur;
            case 2:
                return parliament.coughs;
            case 3:
                return now.wearer;
            case 4:
                return now.minutes;
            case 5:
                return parliament.frozen(now.warmth);
            default:
                return BAD;
        }
    }

    // ---- speeches

    public int speaks(int m, int n) {
        if (!parliament.has(m) || !isSpeechLength(n)) {
            return BAD;
        }
        if (Parliament.isFrozen(m, now.warmth)) {
            return STATE;
        }
        past.add(now);
        now.wearer = m;
        int spoken = 0;
        while (spoken < n && (spoken == 0 || !drawsCough())) {
            passMinute();
            spoken++;
        }
        return spoken;
    }

    public int pause(int n) {
        if (!isSpeechLength(n)) {
            return BAD;
        }
        past.add(now);
        for (int i = 0; i < n; i++) {
            passMinute();
        }
        return Integer.bitCount(parliament.frozen(now.warmth));
    }

    public int lining() {
        if (now.fur >= MOST_FUR) {
            return STATE;
        }
        past.add(now);
        now.fur++;
        return now.fur;
    }

    public int undo() {
        if (past.known == 0) {
            return STATE;
        }
        int lotStays = now.lot;
        past.takeLast(now);
        now.lot = lotStays;
        return past.known;
    }

    public int vote() {
        return parliament.isCarried(now.warmth) ? 1 : 0;
    }

    public int lot(int v) {
        int former = now.lot;
        now.lot = v;
        return former;
    }

    // ---- plans

    public int carry(int i) {
        if (i < -1) {
            return BAD;
        }
        int minutes = Plans.fewestMinutes(parliament, now, NONE);
        if (i == -1 || minutes == NONE) {
            return minutes;
        }
        if (i >= minutes) {
            return LACKING;
        }
        return Plans.speaker(i, Plans.firstToCarry(parliament, now, minutes));
    }

    public int save(int n, int i) {
        if (!isPlanLength(n) || i < -1) {
            return BAD;
        }
        int best = Plans.firstToSave(parliament, now, n);
        if (best == NONE) {
            return NONE;
        }
        if (i == -1) {
            return Plans.saved(best);
        }
        return i >= n ? LACKING : Plans.speaker(i, best);
    }

    public int worth(int m) {
        if (!parliament.has(m)) {
            return BAD;
        }
        int with = Plans.fewestMinutes(parliament, now, NONE);
        if (with == NONE) {
            return NONE;
        }
        int without = Plans.fewestMinutes(parliament, now, m);
        return without == NONE ? LACKING : without - with;
    }

    public int game(int n, int what) {
        if (!isPlanLength(n)) {
            return BAD;
        }
        switch (what) {
            case 0:
                return Plans.isWon(parliament, now, n) ? 1 : 0;
            case 1:
                return Plans.firstToWin(parliament, now, n);
            default:
                return BAD;
        }
    }

    // ---- who was frozen

    public int saw(int t, int set) {
        if (!isPlanLength(t) || set < 0 || set > parliament.everybody()) {
            return BAD;
        }
        if (seen.known >= MOST_SEEN) {
            return FULL;
        }
        seen.add(t, set);
        return seen.known;
    }

    public int forget() {
        int former = seen.known;
        seen.known = 0;
        return former;
    }

    public int fits(int n) {
        if (!isPlanLength(n)) {
            return BAD;
        }
        return Plans.fitting(parliament, seen, n);
    }

    // ---- kinds, images

    public int rate(int kind, int m) {
        if (!parliament.has(m)) {
            return NO;
        }
        switch (kind) {
            case 0:
                return memberRate(m);
            case 1:
                return oratorRate(m);
            case 2:
                return deafOneRate(m);
            case 3:
                return stammererRate(m);
            case 4:
                return chairRate(m);
            case 5:
                return sleeperRate(m);
            default:
                return NO;
        }
    }

    public int keep(int image) {
        if (image < 0 || image >= images.length) {
            return BAD;
        }
        images[image].kept = true;
        images[image].state.become(now);
        return now.minutes;
    }

    public int back(int image) {
        if (image < 0 || image >= images.length) {
            return BAD;
        }
        if (!images[image].kept) {
            return STATE;
        }
        now.become(images[image].state);
        past.known = 0;
        return now.minutes;
    }

    public int count(int what) {
        switch (what) {
            case 0:
                return parliament.members;
            case 1:
                return parliament.seconds;
            case 2:
                return seen.known;
            case 3:
                return past.known;
            case 4:
                return text.length;
            default:
                return BAD;
        }
    }

    public long trace() {
        return trace;
    }

    // ---- what several calls need

    private static boolean isSpeechLength(int n) {
        return n >= 1 && n <= LONGEST_SPEECH;
    }

    private static boolean isPlanLength(int n) {
        return n >= 0 && n <= LONGEST_PLAN;
    }

    /** All is as the parliament was told; THE LOT and THE TRACE stay. */
    private void beginAnew() {
        now.warmth = parliament.firstWarmth;
        now.wearer = NONE;
        now.fur = parliament.fur;
        now.minutes = 0;
        past.known = 0;
        seen.known = 0;
        for (int i = 0; i < images.length; i++) {
            images[i].kept = false;
        }
    }

    private void passMinute() {
        now.warmth = parliament.afterMinute(now.warmth, now.wearer, now.fur);
        now.minutes++;
    }

    /** THE LOT goes on: whether its DRAW is a cough. */
    private boolean drawsCough() {
        now.lot = now.lot * 1103515245 + 12345;
        return (now.lot >>> 16) % 10 < parliament.coughs;
    }

    private int memberRate(int m) {
        trace += 1;
        return Parliament.warmthOf(m, now.warmth);
    }

    private int oratorRate(int m) {
        trace += 10;
        return memberRate(m) + Integer.bitCount(parliament.secondersOf(m));
    }

    private int deafOneRate(int m) {
        trace += 100;
        return memberRate(m) - parliament.cold;
    }

    private int stammererRate(int m) {
        trace += 1000;
        return 2 * oratorRate(m);
    }

    private int chairRate(int m) {
        trace += 10000;
        return deafOneRate(m) + m;
    }

    private int sleeperRate(int m) {
        trace += 100000;
        return memberRate(m) + now.fur;
    }

    /** What changes as MINUTES go by: all that an IMAGE keeps. */
    private static final class Now {
        private int warmth;
        private int wearer = NONE;
        private int fur;
        private int minutes;
        private int lot = 1;

        void become(Now other) {
            warmth = other.warmth;
            wearer = other.wearer;
            fur = other.fur;
            minutes = other.minutes;
            lot = other.lot;
        }
    }

    private static final class Image {
        private final Now state = new Now();
        private boolean kept;
    }

    /** The states that can be had back by undo(), the oldest first. */
    private static final class Past {
        private final Now[] states = new Now[MOST_UNDONE];
        private int known;

        Past() {
            for (int i = 0; i < states.length; i++) {
                states[i] = new Now();
            }
        }

        void add(Now now) {
            if (known >= states.length) {
                loseOldest();
            }
            if (known >= 0 && known < states.length) {
                states[known].become(now);
                known++;
            }
        }

        void takeLast(Now now) {
            if (known > 0 && known <= states.length) {
                known--;
                now.become(states[known]);
            }
        }

        private void loseOldest() {
            for (int i = 1; i < states.length; i++) {
                states[i - 1].become(states[i]);
            }
            known = states.length - 1;
        }
    }

    /** Who was SEEN to be FROZEN, and behind how many MINUTES. */
    private static final class Seen {
        private final int[] minutes = new int[MOST_SEEN];
        private final int[] sets = new int[MOST_SEEN];
        private int known;

        void add(int minute, int set) {
            if (known >= 0 && known < minutes.length && known < sets.length) {
                minutes[known] = minute;
                sets[known] = set;
                known++;
            }
        }

        boolean allowsBehind(int minute, int frozen) {
            for (int i = 0; i < known && i < minutes.length && i < sets.length; i++) {
                if (minutes[i] == minute && sets[i] != frozen) {
                    return false;
                }
            }
            return true;
        }
    }

    /**
     * What THE TEXT told, and what a MINUTE does to the MEMBERS.
     *
     * <p>The WARMTH of all MEMBERS stands in one number, five bits each, so that a search through
     * plans makes no rows and has nothing to put back.
     */
    private static final class Parliament {
        private static final int WARMTH_BITS = 5;
        private static final int WARMTH_MASK = 31;
        private static final int MEMBERS_MASK = (1 << MOST_MEMBERS) - 1;

        private int members;
        private int firstWarmth;
        private int forMotion;
        private int cold;
        private int fur;
        private int coughs;
        private int seconds;
        /** Who seconds whom: MOST_MEMBERS bits for each who is seconded, the first one's the lowest. */
        private long pairs;

        Parliament() {
            beAsAtFirst();
        }

        void beAsAtFirst() {
            members = 0;
            firstWarmth = 0;
            forMotion = 0;
            cold = 1;
            fur = 1;
            coughs = 0;
            seconds = 0;
            pairs = 0L;
        }

        void addMember(int warmth, int side) {
            firstWarmth |= warmth << (WARMTH_BITS * members);
            forMotion |= side << members;
            members++;
        }

        void addSeconds(int a, int b) {
            pairs |= 1L << (MOST_MEMBERS * b + a);
            seconds++;
        }

        boolean has(int m) {
            return m >= 0 && m < members;
        }

        int everybody() {
            return (1 << members) - 1;
        }

        int sideOf(int m) {
            return (forMotion >> m) & 1;
        }

        /** Who seconds him, as bits; nobody does, while the coat hangs (NONE). */
        int secondersOf(int wearer) {
            return wearer < 0 ? 0 : (int) (pairs >> (MOST_MEMBERS * wearer)) & MEMBERS_MASK;
        }

        static int warmthOf(int m, int warmth) {
            return (warmth >> (WARMTH_BITS * m)) & WARMTH_MASK;
        }

        static boolean isFrozen(int m, int warmth) {
            return warmthOf(m, warmth) == 0;
        }

        /** Who is FROZEN, as bits. */
        int frozen(int warmth) {
            int found = 0;
            for (int m = 0; m < members; m++) {
                if (isFrozen(m, warmth)) {
                    found |= 1 << m;
                }
            }
            return found;
        }

        int notFrozen(int warmth) {
            return members - Integer.bitCount(frozen(warmth));
        }

        boolean isCarried(int warmth) {
            int voters = everybody() & ~frozen(warmth);
            return Integer.bitCount(voters & forMotion) > Integer.bitCount(voters & ~forMotion);
        }

        /**
         * Whether the MOTION could be CARRIED behind so many MINUTES if all who are for it kept
         * warm and all who are against it were cold in each: if not, no plan need be tried.
         */
        boolean mightBeCarried(int warmth, int minutes) {
            int surplus = 0;
            for (int m = 0; m < members; m++) {
                if (sideOf(m) == 1) {
                    surplus += isFrozen(m, warmth) ? 0 : 1;
                } else if (warmthOf(m, warmth) > cold * minutes) {
                    surplus--;
                }
            }
            return surplus > 0;
        }

        int afterMinute(int warmth, int wearer, int coatFur) {
            int sheltered = secondersOf(wearer);
            int after = 0;
            for (int m = 0; m < members; m++) {
                int his = warmthOf(m, warmth);
                if (m == wearer && his > 0) {
                    his = Math.min(MOST_WARMTH, his + coatFur);
                } else if (((sheltered >> m) & 1) == 0) {
                    his = Math.max(0, his - cold);
                }
                after |= his << (WARMTH_BITS * m);
            }
            return after;
        }
    }

    /**
     * The search through PLANS and GAMES.
     *
     * <p>A plan is one number: three bits a speaker, the first one's the lowest; what firstToSave()
     * answers has above them how many are saved.
     */
    private static final class Plans {
        private static final int SPEAKER_BITS = 3;
        private static final int SPEAKER_MASK = 7;
        private static final int PLAN_BITS = SPEAKER_BITS * LONGEST_PLAN;
        private static final int PLAN_MASK = (1 << PLAN_BITS) - 1;

        private Plans() {
        }

        static int speaker(int i, int plan) {
            return (plan >> (SPEAKER_BITS * i)) & SPEAKER_MASK;
        }

        static int saved(int best) {
            return best >> PLAN_BITS;
        }

        private static int withFirst(int m, int rest) {
            return (rest << SPEAKER_BITS) | m;
        }

        /** CARRY, while the silent one (NONE: nobody is) does not speak. */
        static int fewestMinutes(Parliament p, Now now, int silent) {
            for (int minutes = 0; minutes <= LONGEST_PLAN; minutes++) {
                if (carrying(p, now.warmth, now.fur, silent, minutes) != NONE) {
                    return minutes;
                }
            }
            return NONE;
        }

        static int firstToCarry(Parliament p, Now now, int minutes) {
            return carrying(p, now.warmth, now.fur, NONE, minutes);
        }

        /** The first plan of just so many minutes that carries the MOTION; NONE. */
        private static int carrying(Parliament p, int warmth, int fur, int silent, int left) {
            if (left <= 0) {
                return p.isCarried(warmth) ? 0 : NONE;
            }
            if (!p.mightBeCarried(warmth, left)) {
                return NONE;
            }
            for (int m = 0; m < p.members; m++) {
                if (m == silent || Parliament.isFrozen(m, warmth)) {
                    continue;
                }
                int rest = carrying(p, p.afterMinute(warmth, m, fur), fur, silent, left - 1);
                if (rest != NONE) {
                    return withFirst(m, rest);
                }
            }
            return NONE;
        }

        static int firstToSave(Parliament p, Now now, int minutes) {
            return saving(p, now.warmth, now.fur, minutes, -1);
        }

        /** How many the first of the best plans saves, and that plan; NONE: none saves more than beaten. */
        private static int saving(Parliament p, int warmth, int fur, int left, int beaten) {
            int most = p.notFrozen(warmth);
            if (most <= beaten) {
                return NONE;
            }
            if (left <= 0) {
                return most << PLAN_BITS;
            }
            int best = NONE;
            int toBeat = beaten;
            for (int m = 0; m < p.members && toBeat < most; m++) {
                if (Parliament.isFrozen(m, warmth)) {
                    continue;
                }
                int found = saving(p, p.afterMinute(warmth, m, fur), fur, left - 1, toBeat);
                if (found != NONE) {
                    toBeat = saved(found);
                    best = (toBeat << PLAN_BITS) | withFirst(m, found & PLAN_MASK);
                }
            }
            return best;
        }

        static boolean isWon(Parliament p, Now now, int minutes) {
            return winning(p, now.warmth, now.wearer, now.fur, 1, minutes);
        }

        static int firstToWin(Parliament p, Now now, int minutes) {
            if (minutes <= 0) {
                return NONE;
            }
            for (int m = 0; m < p.members; m++) {
                if (p.sideOf(m) == 1 && !Parliament.isFrozen(m, now.warmth)
                        && winning(p, p.afterMinute(now.warmth, m, now.fur), m, now.fur, 0, minutes - 1)) {
                    return m;
                }
            }
            return NONE;
        }

        /** Whether SIDE 1 wins, if it is that side's turn and so many minutes are left. */
        private static boolean winning(Parliament p, int warmth, int wearer, int fur, int side, int left) {
            if (left <= 0) {
                return p.isCarried(warmth);
            }
            boolean chosen = false;
            for (int m = 0; m < p.members; m++) {
                if (p.sideOf(m) != side || Parliament.isFrozen(m, warmth)) {
                    continue;
                }
                chosen = true;
                boolean won = winning(p, p.afterMinute(warmth, m, fur), m, fur, 1 - side, left - 1);
                if (won == (side == 1)) {
                    return won;
                }
            }
            if (chosen) {
                return side == 0;
            }
            return winning(p, p.afterMinute(warmth, wearer, fur), wearer, fur, 1 - side, left - 1);
        }

        static int fitting(Parliament p, Seen seen, int minutes) {
            return fittingFrom(p, seen, p.firstWarmth, 0, minutes);
        }

        private static int fittingFrom(Parliament p, Seen seen, int warmth, int minute, int last) {
            if (!seen.allowsBehind(minute, p.frozen(warmth))) {
                return 0;
            }
            if (minute >= last) {
                return 1;
            }
            int plans = 0;
            for (int m = 0; m < p.members; m++) {
                if (!Parliament.isFrozen(m, warmth)) {
                    plans += fittingFrom(p, seen, p.afterMinute(warmth, m, p.fur), minute + 1, last);
                }
            }
            return plans;
        }
    }

    /** THE TEXT, and its reading, TOKEN by TOKEN. */
    private static final class Text {
        private static final int END = 0, WRONG = 1, NUMBER = 2, SEMICOLON = 3, WORD = 4;
        private static final int MEMBER = 0, SECONDS = 1, COLD = 2, FUR = 3, COUGHS = 4, NO_WORD = 5;
        /** What stands for a NUMBER that may stand nowhere: it is beyond what any may be. */
        private static final int NO_NUMBER = 100;

        private final byte[] bytes = new byte[MOST_BYTES];
        private int length;

        private int token;
        private int number;
        /** The TOKEN's first byte; the text's length at the END. */
        private int place;
        private int next;
        /** The words, as bits, that may not be told again. */
        private int toldOnce;

        boolean hasRoomFor(int n) {
            return length <= bytes.length - n;
        }

        void add(byte b) {
            if (length >= 0 && length < bytes.length) {
                bytes[length] = b;
                length++;
            }
        }

        int drop() {
            int former = length;
            length = 0;
            return former;
        }

        /** How many ITEMS the parliament was told; FAULT_BASE less FAULT. */
        int readInto(Parliament p) {
            p.beAsAtFirst();
            next = 0;
            toldOnce = 0;
            int items = 0;
            readToken();
            while (items <= MOST_BYTES && token != END) {
                if (!readItem(p, whichWord())) {
                    return FAULT_BASE - place;
                }
                items++;
                readToken();
            }
            return items;
        }

        /** Reads what follows the ITEM's word; false at a FAULT, which is then at the TOKEN's place. */
        private boolean readItem(Parliament p, int word) {
            switch (word) {
                case MEMBER:
                    return readMember(p);
                case SECONDS:
                    return readSeconds(p);
                case COLD:
                case FUR:
                case COUGHS:
                    return readOnce(p, word);
                default:
                    return false;
            }
        }

        private boolean readMember(Parliament p) {
            if (p.members >= MOST_MEMBERS || !readNumber(1, MOST_WARMTH)) {
                return false;
            }
            int warmth = number;
            if (!readNumber(0, 1)) {
                return false;
            }
            p.addMember(warmth, number);
            return readSemicolon();
        }

        private boolean readSeconds(Parliament p) {
            if (p.seconds >= MOST_SECONDS || !readNumber(0, p.members - 1)) {
                return false;
            }
            int a = number;
            if (!readNumber(0, p.members - 1) || number == a) {
                return false;
            }
            p.addSeconds(a, number);
            return readSemicolon();
        }

        private boolean readOnce(Parliament p, int word) {
            int bit = 1 << word;
            if ((toldOnce & bit) != 0 || !readNumber(0, mostOf(word))) {
                return false;
            }
            toldOnce |= bit;
            if (word == COLD) {
                p.cold = number;
            } else if (word == FUR) {
                p.fur = number;
            } else {
                p.coughs = number;
            }
            return readSemicolon();
        }

        private static int mostOf(int word) {
            if (word == COLD) {
                return MOST_COLD;
            }
            return word == FUR ? MOST_FUR : MOST_COUGHS;
        }

        private boolean readNumber(int least, int most) {
            readToken();
            number = valueOfToken();
            return number >= least && number <= most;
        }

        private boolean readSemicolon() {
            readToken();
            return token == SEMICOLON;
        }

        private void readToken() {
            while (next < length && byteAt(next) == ' ') {
                next++;
            }
            place = next;
            token = kindOf(byteAt(place));
            boolean goesOn = token != END;
            while (next < length && goesOn) {
                next++;
                goesOn = (token == NUMBER || token == WORD) && kindOf(byteAt(next)) == token;
            }
        }

        /** The NUMBER that the TOKEN is; NO_NUMBER, if it is none, is above 99 or has a 0 ahead. */
        private int valueOfToken() {
            if (token != NUMBER || (byteAt(place) == '0' && next - place > 1)) {
                return NO_NUMBER;
            }
            int value = 0;
            for (int i = place; i < next; i++) {
                // it need not grow any more, however many digits follow
                value = Math.min(NO_NUMBER, value * 10 + byteAt(i) - '0');
            }
            return value;
        }

        private int whichWord() {
            if (isWord("member")) {
                return MEMBER;
            }
            if (isWord("seconds")) {
                return SECONDS;
            }
            if (isWord("cold")) {
                return COLD;
            }
            if (isWord("fur")) {
                return FUR;
            }
            return isWord("coughs") ? COUGHS : NO_WORD;
        }

        /** Whether the TOKEN is this word. */
        private boolean isWord(String word) {
            if (next - place != word.length()) {
                return false;
            }
            for (int i = 0; i < word.length(); i++) {
                if (byteAt(place + i) != word.charAt(i)) {
                    return false;
                }
            }
            return true;
        }

        /** What TOKEN a byte begins or, behind one of the same kind, goes on with. */
        private static int kindOf(int b) {
            if (b < 0) {
                return END;
            }
            if (b >= '0' && b <= '9') {
                return NUMBER;
            }
            if (b >= 'a' && b <= 'z') {
                return WORD;
            }
            return b == ';' ? SEMICOLON : WRONG;
        }

        /** A byte as a number from 0 on; -1 beyond the text. */
        private int byteAt(int i) {
            return i >= 0 && i < length && i < bytes.length ? bytes[i] & 255 : -1;
        }
    }
}
