import java.util.ArrayList;
import java.util.Arrays;
import java.util.List;
import java.util.regex.Matcher;
import java.util.regex.Pattern;

/**
 * The document once more, written to be read rather than run fast: rows, lists and regular
 * expressions, and every plan tried to its end. LastCoat is held against it by ModelTest.
 */
final class Model {
    private static final Pattern TOKEN = Pattern.compile("[a-z]+|[0-9]+|[^ ]", Pattern.DOTALL);

    private record Past(int[] warmth, int wearer, int fur, int minutes, int lot) { }

    private String text = "";
    private List<int[]> members = new ArrayList<>();
    private List<int[]> seconds = new ArrayList<>();
    private int cold = 1;
    private int toldFur = 1;
    private int coughs = 0;
    private int[] warmth = {};
    private int wearer = -9;
    private int fur = 1;
    private int minutes = 0;
    private int lot = 1;
    private List<Past> known = new ArrayList<>();
    private List<int[]> seen = new ArrayList<>();
    private Past[] images = new Past[2];
    private long trace = 0;

    int type(long v, int n) {
        if (n < 1 || n > 8) {
            return -1;
        }
        if (text.length() + n > 200) {
            return -3;
        }
        StringBuilder bytes = new StringBuilder();
        for (int i = 0; i < n; i++) {
            bytes.insert(0, (char) (v & 255));
            v >>>= 8;
        }
        text += bytes;
        return text.length();
    }

    int clear() {
        int had = text.length();
        text = "";
        return had;
    }

    int house() {
        List<String> tokens = new ArrayList<>();
        List<Integer> places = new ArrayList<>();
        Matcher matcher = TOKEN.matcher(text);
        while (matcher.find()) {
            tokens.add(matcher.group());
            places.add(matcher.start());
        }
        places.add(text.length());
        List<int[]> newMembers = new ArrayList<>();
        List<int[]> newSeconds = new ArrayList<>();
        int newCold = -1;
        int newFur = -1;
        int newCoughs = -1;
        int items = 0;
        int at = 0;
        while (at < tokens.size()) {
            String word = tokens.get(at);
            int count = newMembers.size();
            int good;
            if (word.equals("member") && count < 6) {
                good = numbers(tokens, at + 1, 1, 20, 0, 1);
            } else if (word.equals("seconds") && newSeconds.size() < 8) {
                good = numbers(tokens, at + 1, 0, count - 1, 0, count - 1);
                if (good >= 2 && value(tokens.get(at + 1)) == value(tokens.get(at + 2))) {
                    good = 1;
                }
            } else if (word.equals("cold") && newCold < 0 || word.equals("fur") && newFur < 0) {
                good = numbers(tokens, at + 1, 0, 5);
            } else if (word.equals("coughs") && newCoughs < 0) {
                good = numbers(tokens, at + 1, 0, 9);
            } else {
                return -10 - places.get(at);
            }
            int wanted = word.equals("member") || word.equals("seconds") ? 2 : 1;
            if (good < wanted || at + 1 + wanted >= tokens.size() || !tokens.get(at + 1 + wanted).equals(";")) {
                return -10 - places.get(Math.min(at + 1 + Math.min(good, wanted), tokens.size()));
            }
            int first = value(tokens.get(at + 1));
            if (wanted == 2) {
                (word.equals("member") ? newMembers : newSeconds).add(new int[] {first, value(tokens.get(at + 2))});
            } else if (word.equals("cold")) {
                newCold = first;
            } else if (word.equals("fur")) {
                newFur = first;
            } else {
                newCoughs = first;
            }
            items++;
            at += wanted + 2;
        }
        members = newMembers;
        seconds = newSeconds;
        cold = newCold < 0 ? 1 : newCold;
        toldFur = newFur < 0 ? 1 : newFur;
        coughs = newCoughs < 0 ? 0 : newCoughs;
        text = "";
        warmth = toldWarmth();
        wearer = -9;
        fur = toldFur;
        minutes = 0;
        known.clear();
        seen.clear();
        images = new Past[2];
        return items;
    }

    /** How many of the tokens from here on are numbers within the bounds told, pair by pair. */
    private static int numbers(List<String> tokens, int from, int... bounds) {
        int good = 0;
        while (2 * good < bounds.length && from + good < tokens.size()) {
            int value = value(tokens.get(from + good));
            if (value < bounds[2 * good] || value > bounds[2 * good + 1]) {
                break;
            }
            good++;
        }
        return good;
    }

    private static int value(String token) {
        return token.matches("0|[1-9][0-9]?") ? Integer.parseInt(token) : -1;
    }

    private int[] toldWarmth() {
        return members.stream().mapToInt(m -> m[0]).toArray();
    }

    private boolean isMember(int m) {
        return m >= 0 && m < members.size();
    }

    private int seconders(int m) {
        return (int) seconds.stream().filter(s -> s[1] == m).mapToInt(s -> s[0]).distinct().count();
    }

    int member(int m, int what) {
        if (!isMember(m) || what < 0 || what > 3) {
            return -1;
        }
        return new int[] {warmth[m], members.get(m)[1], warmth[m] == 0 ? 1 : 0, seconders(m)}[what];
    }

    int told(int what) {
        if (what < 0 || what > 5) {
            return -1;
        }
        return new int[] {cold, fur, coughs, wearer, minutes, frozen(warmth)}[what];
    }

    private static int frozen(int[] warmth) {
        int bits = 0;
        for (int m = 0; m < warmth.length; m++) {
            bits += warmth[m] == 0 ? 1 << m : 0;
        }
        return bits;
    }

    private int[] after(int[] before, int wearing, int gain) {
        int[] now = before.clone();
        for (int m = 0; m < now.length; m++) {
            if (before[m] == 0) {
                continue;
            }
            boolean sheltered = false;
            for (int[] s : seconds) {
                sheltered |= s[0] == m && s[1] == wearing;
            }
            if (m == wearing) {
                now[m] = Math.min(20, before[m] + gain);
            } else if (!sheltered) {
                now[m] = Math.max(0, before[m] - cold);
            }
        }
        return now;
    }

    private void remember() {
        known.add(image());
        if (known.size() > 10) {
            known.remove(0);
        }
    }

    private Past image() {
        return new Past(warmth, wearer, fur, minutes, lot);
    }

    private void become(Past past) {
        warmth = past.warmth;
        wearer = past.wearer;
        fur = past.fur;
        minutes = past.minutes;
    }

    int speaks(int m, int n) {
        if (!isMember(m) || n < 1 || n > 9) {
            return -1;
        }
        if (warmth[m] == 0) {
            return -2;
        }
        remember();
        wearer = m;
        for (int minute = 1; minute <= n; minute++) {
            if (minute > 1) {
                lot = (int) (lot * 1103515245L + 12345L);
                if ((lot >> 16 & 0xFFFF) % 10 < coughs) {
                    return minute - 1;
                }
            }
            warmth = after(warmth, wearer, fur);
            minutes++;
        }
        return n;
    }

    int pause(int n) {
        if (n < 1 || n > 9) {
            return -1;
        }
        remember();
        for (int minute = 1; minute <= n; minute++) {
            warmth = after(warmth, wearer, fur);
            minutes++;
        }
        return Integer.bitCount(frozen(warmth));
    }

    int lining() {
        if (fur == 5) {
            return -2;
        }
        remember();
        return ++fur;
    }

    int undo() {
        if (known.isEmpty()) {
            return -2;
        }
        become(known.remove(known.size() - 1));
        return known.size();
    }

    private boolean carried(int[] warmths) {
        int sum = 0;
        for (int m = 0; m < warmths.length; m++) {
            sum += warmths[m] == 0 ? 0 : members.get(m)[1] == 1 ? 1 : -1;
        }
        return sum > 0;
    }

    int vote() {
        return carried(warmth) ? 1 : 0;
    }

    int lot(int v) {
        int was = lot;
        lot = v;
        return was;
    }

    /** All plans of n minutes, the first by members first: rows of speakers, with no look at who is frozen. */
    private List<int[]> rows(int n) {
        List<int[]> rows = new ArrayList<>();
        int all = 1;
        for (int i = 0; i < n; i++) {
            all *= members.size();
        }
        for (int number = 0; number < all; number++) {
            int[] row = new int[n];
            int rest = number;
            for (int i = n - 1; i >= 0; i--) {
                row[i] = rest % members.size();
                rest /= members.size();
            }
            rows.add(row);
        }
        return rows;
    }

    /** Each minute's warmths along a plan, those ahead of it first; null, if one can't speak. */
    private int[][] along(int[] from, int[] row, int gain) {
        int[][] steps = new int[row.length + 1][];
        steps[0] = from;
        for (int i = 0; i < row.length; i++) {
            if (steps[i][row[i]] == 0) {
                return null;
            }
            steps[i + 1] = after(steps[i], row[i], gain);
        }
        return steps;
    }

    /** The first of the shortest plans that carry the motion, in which the silent one never speaks; null. */
    private int[] carrying(int silent) {
        for (int n = 0; n <= 5; n++) {
            for (int[] row : rows(n)) {
                if (Arrays.stream(row).anyMatch(m -> m == silent)) {
                    continue;
                }
                int[][] steps = along(warmth, row, fur);
                if (steps != null && carried(steps[n])) {
                    return row;
                }
            }
        }
        return null;
    }

    int carry(int i) {
        if (i < -1) {
            return -1;
        }
        int[] plan = carrying(-1);
        return plan == null ? -9 : i == -1 ? plan.length : i < plan.length ? plan[i] : -5;
    }

    int save(int n, int i) {
        if (n < 0 || n > 5 || i < -1) {
            return -1;
        }
        int best = -1;
        int[] plan = null;
        for (int[] row : rows(n)) {
            int[][] steps = along(warmth, row, fur);
            if (steps != null) {
                int saved = members.size() - Integer.bitCount(frozen(steps[n]));
                if (saved > best) {
                    best = saved;
                    plan = row;
                }
            }
        }
        return plan == null ? -9 : i == -1 ? best : i < n ? plan[i] : -5;
    }

    int worth(int m) {
        if (!isMember(m)) {
            return -1;
        }
        int[] with = carrying(-1);
        int[] without = carrying(m);
        return with == null ? -9 : without == null ? -5 : without.length - with.length;
    }

    int game(int n, int what) {
        if (n < 0 || n > 5 || what < 0 || what > 1) {
            return -1;
        }
        if (what == 0) {
            return wins(warmth, wearer, 1, n) ? 1 : 0;
        }
        for (int m = 0; n > 0 && m < members.size(); m++) {
            if (warmth[m] > 0 && members.get(m)[1] == 1 && wins(after(warmth, m, fur), m, 0, n - 1)) {
                return m;
            }
        }
        return -9;
    }

    private boolean wins(int[] warmths, int wearing, int side, int left) {
        if (left == 0) {
            return carried(warmths);
        }
        List<Boolean> ends = new ArrayList<>();
        for (int m = 0; m < members.size(); m++) {
            if (warmths[m] > 0 && members.get(m)[1] == side) {
                ends.add(wins(after(warmths, m, fur), m, 1 - side, left - 1));
            }
        }
        if (ends.isEmpty()) {
            ends.add(wins(after(warmths, wearing, fur), wearing, 1 - side, left - 1));
        }
        return side == 1 ? ends.contains(true) : !ends.contains(false);
    }

    int saw(int t, int set) {
        if (t < 0 || t > 5 || set < 0 || set >= 1 << members.size()) {
            return -1;
        }
        if (seen.size() == 6) {
            return -3;
        }
        seen.add(new int[] {t, set});
        return seen.size();
    }

    int forget() {
        int was = seen.size();
        seen.clear();
        return was;
    }

    int fits(int n) {
        if (n < 0 || n > 5) {
            return -1;
        }
        int fit = 0;
        for (int[] row : rows(n)) {
            int[][] steps = along(toldWarmth(), row, toldFur);
            boolean good = steps != null;
            for (int[] s : seen) {
                good = good && (s[0] > n || frozen(steps[s[0]]) == s[1]);
            }
            fit += good ? 1 : 0;
        }
        return fit;
    }

    int rate(int kind, int m) {
        if (kind < 0 || kind > 5 || !isMember(m)) {
            return -1000000;
        }
        trace += new int[] {1, 11, 101, 1011, 10101, 100001}[kind];
        int[] rates = {warmth[m], warmth[m] + seconders(m), warmth[m] - cold, 2 * (warmth[m] + seconders(m)),
            warmth[m] - cold + m, warmth[m] + fur};
        return rates[kind];
    }

    int keep(int image) {
        if (image < 0 || image > 1) {
            return -1;
        }
        images[image] = image();
        return minutes;
    }

    int back(int image) {
        if (image < 0 || image > 1) {
            return -1;
        }
        if (images[image] == null) {
            return -2;
        }
        become(images[image]);
        lot = images[image].lot;
        known.clear();
        return minutes;
    }

    int count(int what) {
        if (what < 0 || what > 4) {
            return -1;
        }
        return new int[] {members.size(), seconds.size(), seen.size(), known.size(), text.length()}[what];
    }

    long trace() {
        return trace;
    }
}
