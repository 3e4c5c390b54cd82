import java.util.ArrayDeque;
import java.util.ArrayList;
import java.util.Deque;
import java.util.List;
import java.util.Set;
import java.util.TreeSet;
import java.util.regex.Matcher;
import java.util.regex.Pattern;

/** The document once more, in its slowest words, for runs of calls side by side with the class. */
final class Model {
    static final int NONE = -1;
    private static final String ORDER = "(d[0-7]|q[0-7]-[0-7]|h[0-7]>[0-7]|t[1-9][0-9]?[0-9]?|r)";
    private static final int[] INVERSES = inverses();
    private static final Pattern DAYS = Pattern.compile(ORDER + "(;" + ORDER + ")*");

    static final class Keeper {
        boolean lives = true;
        int heir = NONE;
        Set<Integer> foes = new TreeSet<>();
        int tries;
    }

    static final class Share {
        int value;
        int owner;
        boolean forged;
    }

    static final class State {
        List<Keeper> keepers = new ArrayList<>();
        Share[] shares = new Share[8];
        int day;
        int stage;
        int key;
        int quorum;
        int date;
        int dealings;
        int refused;
        long x = 1;

        State copy() {
            State other = new State();
            for (Keeper k : keepers) {
                Keeper twin = new Keeper();
                twin.lives = k.lives;
                twin.heir = k.heir;
                twin.foes = new TreeSet<>(k.foes);
                twin.tries = k.tries;
                other.keepers.add(twin);
            }
            for (int i = 0; i < 8; i++) {
                if (shares[i] != null) {
                    other.shares[i] = new Share();
                    other.shares[i].value = shares[i].value;
                    other.shares[i].owner = shares[i].owner;
                    other.shares[i].forged = shares[i].forged;
                }
            }
            other.day = day;
            other.stage = stage;
            other.key = key;
            other.quorum = quorum;
            other.date = date;
            other.dealings = dealings;
            other.refused = refused;
            other.x = x;
            return other;
        }

        boolean there(int keeper) {
            return keeper >= 0 && keeper < keepers.size();
        }

        int living() {
            int n = 0;
            for (Keeper k : keepers) {
                n += k.lives ? 1 : 0;
            }
            return n;
        }
    }

    State s = new State();
    Deque<State> saved = new ArrayDeque<>();
    StringBuilder buffer = new StringBuilder();

    private void save() {
        saved.addLast(s.copy());
        if (saved.size() > 6) {
            saved.removeFirst();
        }
    }

    private void index(int keeper) {
        if (!s.there(keeper)) {
            throw new IndexOutOfBoundsException();
        }
    }

    private static void argument(boolean good) {
        if (!good) {
            throw new IllegalArgumentException();
        }
    }

    private static void state(boolean good) {
        if (!good) {
            throw new IllegalStateException();
        }
    }

    int keeper() {
        state(s.keepers.size() < 8);
        save();
        s.keepers.add(new Keeper());
        return s.keepers.size() - 1;
    }

    int die(int keeper) {
        index(keeper);
        state(s.keepers.get(keeper).lives);
        save();
        return dieIn(s, keeper);
    }

    private static int dieIn(State s, int keeper) {
        s.keepers.get(keeper).lives = false;
        int heir = s.keepers.get(keeper).heir;
        int gone = 0;
        for (int i = 0; i < 8; i++) {
            if (s.shares[i] != null && s.shares[i].owner == keeper) {
                if (heir != NONE && s.keepers.get(heir).lives) {
                    s.shares[i].owner = heir;
                    gone++;
                } else {
                    s.shares[i] = null;
                }
            }
        }
        return gone;
    }

    int heir(int keeper, int heir) {
        index(keeper);
        if (heir != NONE) {
            index(heir);
        }
        state(keeper != heir && s.keepers.get(keeper).lives);
        state(heir == NONE || s.keepers.get(heir).lives);
        save();
        int before = s.keepers.get(keeper).heir;
        s.keepers.get(keeper).heir = heir;
        return before;
    }

    int quarrel(int one, int other) {
        index(one);
        index(other);
        state(one != other);
        save();
        if (s.keepers.get(one).foes.contains(other)) {
            s.keepers.get(one).foes.remove(other);
            s.keepers.get(other).foes.remove(one);
        } else {
            s.keepers.get(one).foes.add(other);
            s.keepers.get(other).foes.add(one);
        }
        return s.keepers.get(one).foes.size();
    }

    int seal(int key, int quorum, int date) {
        argument(key >= 0 && key <= 250 && quorum >= 1 && quorum <= 8 && date >= 0 && date <= 9999);
        state(s.living() >= quorum);
        save();
        s.key = key;
        s.quorum = quorum;
        s.date = date;
        s.stage = 1;
        return deal();
    }

    private int deal() {
        int[] coefficients = new int[s.quorum];
        coefficients[0] = s.key;
        for (int p = 1; p < s.quorum; p++) {
            s.x = (171 * s.x + 11213) % 53125;
            coefficients[p] = (int) (s.x % 251);
        }
        int dealt = 0;
        for (int k = 0; k < 8; k++) {
            s.shares[k] = null;
            if (s.there(k) && s.keepers.get(k).lives) {
                long sum = 0;
                long power = 1;
                for (int p = 0; p < s.quorum; p++) {
                    sum += coefficients[p] * power;
                    power *= k + 1;
                }
                s.shares[k] = new Share();
                s.shares[k].value = (int) (sum % 251);
                s.shares[k].owner = k;
                dealt++;
            }
        }
        s.dealings++;
        return dealt;
    }

    int renew() {
        state(s.stage == 1 && s.living() >= s.quorum);
        save();
        return deal();
    }

    int forge(int share, int value) {
        argument(share >= 0 && share <= 7 && value >= 0 && value <= 250);
        state(s.shares[share] != null);
        save();
        int before = s.shares[share].value;
        s.shares[share].value = value;
        s.shares[share].forged = true;
        return before;
    }

    int pass(int days) {
        argument(days >= 1 && days <= 999);
        state(s.day + days <= 99999);
        save();
        s.day += days;
        return s.day;
    }

    int open(int group) {
        int reason = why(group);
        save();
        for (int k = 0; k < s.keepers.size(); k++) {
            s.keepers.get(k).tries += (group & 1 << k) != 0 ? 1 : 0;
        }
        if (reason == 0) {
            s.stage = 2;
        } else {
            s.refused++;
        }
        return reason;
    }

    int append(int code) {
        argument(code >= 33 && code <= 126);
        state(buffer.length() < 60);
        buffer.append((char) code);
        return buffer.length();
    }

    int clearBuffer() {
        int before = buffer.length();
        buffer.setLength(0);
        return before;
    }

    int firstError() {
        for (int end = 1; end <= buffer.length(); end++) {
            Matcher m = DAYS.matcher(buffer.substring(0, end));
            if (!m.matches() && !m.hitEnd()) {
                return end - 1;
            }
        }
        return buffer.length();
    }

    int live() {
        argument(DAYS.matcher(buffer).matches());
        Deque<State> before = new ArrayDeque<>(saved);
        State start = s.copy();
        int done = 0;
        try {
            for (String order : buffer.toString().split(";")) {
                doOrder(order);
                done++;
            }
        } catch (IllegalStateException | IllegalArgumentException | IndexOutOfBoundsException e) {
            // the orders after this one are left
        }
        buffer.setLength(0);
        saved = before;
        State end = s;
        s = start;
        save();
        s = end;
        return done;
    }

    private void doOrder(String order) {
        switch (order.charAt(0)) {
            case 'd' -> die(order.charAt(1) - '0');
            case 'q' -> quarrel(order.charAt(1) - '0', order.charAt(3) - '0');
            case 'h' -> heir(order.charAt(1) - '0', order.charAt(3) - '0');
            case 't' -> pass(Integer.parseInt(order.substring(1)));
            default -> renew();
        }
    }

    int undo() {
        state(!saved.isEmpty());
        s = saved.removeLast();
        return saved.size();
    }

    int keeperOf(int keeper, int what) {
        index(keeper);
        argument(what >= 0 && what <= 4);
        Keeper k = s.keepers.get(keeper);
        int mask = 0;
        if (what == 0) {
            return k.lives ? 1 : 0;
        }
        if (what == 1) {
            return k.heir;
        }
        if (what == 2) {
            return owned(s, 1 << keeper);
        }
        if (what == 4) {
            return k.tries;
        }
        for (int foe : k.foes) {
            mask |= 1 << foe;
        }
        return mask;
    }

    int share(int share, int what) {
        argument(share >= 0 && share <= 7 && what >= 0 && what <= 2);
        Share it = s.shares[share];
        if (it == null) {
            return NONE;
        }
        return what == 0 ? it.value : what == 1 ? it.owner : it.forged ? 1 : 0;
    }

    int count(int what) {
        argument(what >= 0 && what <= 11);
        int pairs = 0;
        for (Keeper k : s.keepers) {
            pairs += k.foes.size();
        }
        int[] all = {s.keepers.size(), s.living(), s.day, s.stage, s.stage == 0 ? NONE : s.quorum,
            s.stage == 0 ? NONE : s.date, Integer.bitCount(there()), pairs / 2, s.dealings, s.refused,
            (int) s.x, saved.size()};
        return all[what];
    }

    int there() {
        int mask = 0;
        for (int i = 0; i < 8; i++) {
            mask |= s.shares[i] != null ? 1 << i : 0;
        }
        return mask;
    }

    private static int owned(State s, int group) {
        int mask = 0;
        for (int i = 0; i < 8; i++) {
            if (s.shares[i] != null && (group & 1 << s.shares[i].owner) != 0) {
                mask |= 1 << i;
            }
        }
        return mask;
    }

    int why(int group) {
        argument(group >= 0 && group <= 255);
        for (int k = s.keepers.size(); k < 8; k++) {
            argument((group & 1 << k) == 0);
        }
        return reason(s, group, s.day >= s.date);
    }

    private static int reason(State s, int group, boolean dateHasCome) {
        if (s.stage != 1) {
            return 1;
        }
        if (group == 0) {
            return 2;
        }
        for (int k = 0; k < 8; k++) {
            if ((group & 1 << k) != 0 && !(s.there(k) && s.keepers.get(k).lives)) {
                return 2;
            }
        }
        for (int k = 0; k < s.keepers.size(); k++) {
            for (int foe : s.keepers.get(k).foes) {
                if ((group & 1 << k) != 0 && (group & 1 << foe) != 0) {
                    return 3;
                }
            }
        }
        if (!dateHasCome) {
            return 4;
        }
        int shares = owned(s, group);
        if (Integer.bitCount(shares) < s.quorum) {
            return 5;
        }
        return key(s, shares) == s.key ? 0 : 6;
    }

    /** Lagrange's sum at 0 over the lowest shares, the inverses sought one by one. */
    private static int key(State s, int shares) {
        List<Integer> places = new ArrayList<>();
        for (int i = 0; i < 8 && places.size() < s.quorum; i++) {
            if ((shares & 1 << i) != 0) {
                places.add(i);
            }
        }
        long sum = 0;
        for (int i : places) {
            long term = s.shares[i].value;
            for (int j : places) {
                if (i != j) {
                    term = term * (j + 1) % 251 * inverse(Math.floorMod(j - i, 251)) % 251;
                }
            }
            sum += term;
        }
        return (int) (sum % 251);
    }

    private static int inverse(int value) {
        return INVERSES[value];
    }

    private static int[] inverses() {
        int[] found = new int[251];
        for (int i = 1; i < 251; i++) {
            for (int j = 1; j < 251; j++) {
                if (i * j % 251 == 1) {
                    found[i] = j;
                }
            }
        }
        return found;
    }

    int told(int shares) {
        argument(shares >= 0 && shares <= 255);
        if (s.stage == 0 || (shares & ~there()) != 0 || Integer.bitCount(shares) < s.quorum) {
            return NONE;
        }
        return key(s, shares);
    }

    /** Tries every key: the points fit if all divided differences from the quorum on are 0. */
    int possible(int shares) {
        argument(shares >= 0 && shares <= 255);
        if (s.stage == 0 || (shares & ~there()) != 0) {
            return NONE;
        }
        int keys = 0;
        for (int key = 0; key < 251; key++) {
            keys += fits(key, shares) ? 1 : 0;
        }
        return keys;
    }

    private boolean fits(int key, int shares) {
        List<Integer> at = new ArrayList<>(List.of(0));
        List<Integer> values = new ArrayList<>(List.of(key));
        for (int i = 0; i < 8; i++) {
            if ((shares & 1 << i) != 0) {
                at.add(i + 1);
                values.add(s.shares[i].value);
            }
        }
        for (int order = 1; order < at.size(); order++) {
            List<Integer> next = new ArrayList<>();
            for (int i = 0; i + 1 < values.size(); i++) {
                int rise = Math.floorMod(values.get(i + 1) - values.get(i), 251);
                next.add(rise * inverse(at.get(i + order) - at.get(i)) % 251);
            }
            values = next;
            if (order >= s.quorum && values.stream().anyMatch(v -> v != 0)) {
                return false;
            }
        }
        return true;
    }

    private static List<Integer> able(State s) {
        List<Integer> found = new ArrayList<>();
        for (int group = 0; group < 256; group++) {
            if (reason(s, group, true) == 0) {
                found.add(group);
            }
        }
        return found;
    }

    int smallest(int what) {
        argument(what == 0 || what == 1);
        for (int size = 1; size <= 8; size++) {
            for (int group : able(s)) {
                if (Integer.bitCount(group) == size) {
                    return what == 0 ? size : group;
                }
            }
        }
        return NONE;
    }

    int groups() {
        return able(s).size();
    }

    int needed() {
        int mask = 0;
        for (int k = 0; k < s.keepers.size() && !able(s).isEmpty(); k++) {
            if (s.keepers.get(k).lives) {
                State then = s.copy();
                dieIn(then, k);
                mask |= able(then).isEmpty() ? 1 << k : 0;
            }
        }
        return mask;
    }

    int peace(boolean latter) {
        int most = groups();
        int told = NONE;
        for (int one = 0; one < s.keepers.size(); one++) {
            for (int other = one + 1; other < s.keepers.size(); other++) {
                if (s.keepers.get(one).foes.contains(other) && s.keepers.get(one).lives
                        && s.keepers.get(other).lives) {
                    State then = s.copy();
                    then.keepers.get(one).foes.remove(other);
                    then.keepers.get(other).foes.remove(one);
                    int groups = able(then).size();
                    if (groups > most) {
                        most = groups;
                        told = latter ? other : one;
                    }
                }
            }
        }
        return told;
    }

    double firstShare() {
        double home = 0;
        double all = 0;
        for (int i = 0; i < 8; i++) {
            if (s.shares[i] != null) {
                all++;
                home += s.shares[i].owner == i ? 1 : 0;
            }
        }
        return all == 0 ? 1.0 : home / all;
    }

    long digest() {
        List<Long> values = new ArrayList<>();
        for (int what = 0; what <= 11; what++) {
            values.add((long) count(what));
        }
        for (int keeper = 0; keeper < s.keepers.size(); keeper++) {
            for (int what = 0; what <= 4; what++) {
                values.add((long) keeperOf(keeper, what));
            }
        }
        for (int i = 0; i < 8; i++) {
            for (int what = 0; what <= 2; what++) {
                values.add((long) share(i, what));
            }
        }
        for (int shares : List.of(7, 14, 56, 255)) {
            values.add((long) told(shares));
        }
        for (int shares : List.of(0, 3, 7, 24, 255)) {
            values.add((long) possible(shares));
        }
        for (int answer : List.of(why((1 << s.keepers.size()) - 1), smallest(0), smallest(1), groups(), needed(),
                peace(false), peace(true))) {
            values.add((long) answer);
        }
        values.add(Double.doubleToLongBits(firstShare()));
        values.add((long) buffer.length());
        buffer.chars().forEach(code -> values.add((long) code));
        long hash = 3019;
        for (long value : values) {
            hash = 31 * hash + value;
        }
        return hash;
    }
}
