/** A time capsule whose key is dealt in shares to keepers; ../shared/DOC.md says what it must do. */
public final class CapsuleKeepers {
    public static final int NONE = -1;

    private static final int MOST_KEEPERS = 8;
    private static final int MOST_QUORUM = 8;
    private static final int MASKS = 256;
    private static final int MODULUS = 251;
    private static final int MOST_DATE = 9999;
    private static final int MOST_DAYS = 999;
    private static final int MOST_DAY = 99999;
    private static final int MOST_CODES = 60;
    private static final int MOST_SAVED = 6;

    private static final int NO_CAPSULE = 0;
    private static final int SHUT = 1;
    private static final int OPEN = 2;

    private static final int NOT_SHUT = 1;
    private static final int DEAD_OR_EMPTY = 2;
    private static final int QUARRELLING = 3;
    private static final int TOO_EARLY = 4;
    private static final int TOO_FEW_SHARES = 5;
    private static final int WRONG_KEY = 6;

    private final Place now;
    private final Place spare;
    private final Place[] saved;
    private int savedCount;
    private final Curves curves;
    private final Survey survey;
    private final DaysText text;

    public CapsuleKeepers() {
        now = new Place();
        spare = new Place();
        saved = new Place[MOST_SAVED];
        for (int i = 0; i < MOST_SAVED; i++) {
            saved[i] = new Place();
        }
        savedCount = 0;
        curves = new Curves();
        survey = new Survey();
        text = new DaysText();
    }

    // ---- keepers

    public int keeper() throws IllegalStateException {
        if (now.keepers >= MOST_KEEPERS) {
            throw new IllegalStateException("there are 8 keepers");
        }
        save();
        return now.addKeeper();
    }

    public int die(int keeper) throws IndexOutOfBoundsException, IllegalStateException {
        checkKeeper(keeper);
        if (!now.lives(keeper)) {
            throw new IllegalStateException("this keeper is dead");
        }
        save();
        return now.bury(keeper);
    }

    public int heir(int keeper, int heir) throws IndexOutOfBoundsException, IllegalStateException {
        checkKeeper(keeper);
        if (heir != NONE) {
            checkKeeper(heir);
        }
        if (!now.mayName(keeper, heir)) {
            throw new IllegalStateException("both are the same, or one is dead");
        }
        save();
        return now.nameHeir(keeper, heir);
    }

    public int quarrel(int one, int other) throws IndexOutOfBoundsException, IllegalStateException {
        checkKeeper(one);
        checkKeeper(other);
        if (one == other) {
            throw new IllegalStateException("both are the same");
        }
        save();
        return now.toggleQuarrel(one, other);
    }

    // ---- the capsule

    public int seal(int key, int quorum, int date) throws IllegalArgumentException, IllegalStateException {
        checkRange(key, 0, MODULUS - 1);
        checkRange(quorum, 1, MOST_QUORUM);
        checkRange(date, 0, MOST_DATE);
        if (now.livingCount() < quorum) {
            throw new IllegalStateException("fewer keepers live than the quorum");
        }
        save();
        now.shut(key, quorum, date);
        return dealShares();
    }

    public int renew() throws IllegalStateException {
        if (!now.mayRenew()) {
            throw new IllegalStateException("no shut capsule, or fewer keepers live than the quorum");
        }
        save();
        return dealShares();
    }

    public int forge(int share, int value) throws IllegalArgumentException, IllegalStateException {
        checkRange(share, 0, MOST_KEEPERS - 1);
        checkRange(value, 0, MODULUS - 1);
        if (!now.hasShare(share)) {
            throw new IllegalStateException("there is no such share");
        }
        save();
        int before = now.replaceShare(share, value);
        curves.reckon(now);
        return before;
    }

    public int pass(int days) throws IllegalArgumentException, IllegalStateException {
        checkRange(days, 1, MOST_DAYS);
        if (!now.mayPass(days)) {
            throw new IllegalStateException("the day would be above 99999");
        }
        save();
        now.day += days;
        return now.day;
    }

    public int open(int group) throws IllegalArgumentException {
        checkGroup(group);
        save();
        int reason = refusal(group);
        now.countTry(group, reason == 0);
        return reason;
    }

    // ---- texts

    public int append(int code) throws IllegalArgumentException, IllegalStateException {
        checkRange(code, 33, 126);
        if (text.length >= MOST_CODES) {
            throw new IllegalStateException("the buffer has 60 characters");
        }
        return text.add(code);
    }

    public int clearBuffer() {
        return text.empty();
    }

    public int firstError() {
        return text.errorIndex();
    }

    public int live() throws IllegalArgumentException {
        if (!text.isWhole()) {
            throw new IllegalArgumentException("the buffer does not tell days as a text");
        }
        save();
        int done = 0;
        for (int at = 0; at < text.length; at++) {
            if (text.beginsOrder(at)) {
                if (!carryOut(at)) {
                    break;
                }
                done++;
            }
        }
        text.empty();
        return done;
    }

    public int undo() throws IllegalStateException {
        if (savedCount < 1 || savedCount > MOST_SAVED) {
            throw new IllegalStateException("there is no saved state");
        }
        savedCount--;
        now.copyFrom(saved[savedCount]);
        curves.reckon(now);
        return savedCount;
    }

    // ---- looks; nothing is changed

    public int keeperOf(int keeper, int what) throws IndexOutOfBoundsException, IllegalArgumentException {
        checkKeeper(keeper);
        switch (what) {
            case 0:
                return now.lives(keeper) ? 1 : 0;
            case 1:
                return now.heirs[keeper];
            case 2:
                return now.ownedBy(keeper);
            case 3:
                return now.quarrels[keeper];
            case 4:
                return now.tries[keeper];
            default:
                throw new IllegalArgumentException("what is not 0 to 4");
        }
    }

    public int share(int share, int what) throws IllegalArgumentException {
        checkRange(share, 0, MOST_KEEPERS - 1);
        checkRange(what, 0, 2);
        if (!now.hasShare(share)) {
            return NONE;
        }
        if (what == 0) {
            return now.values[share];
        }
        return what == 1 ? now.owners[share] : now.forged >> share & 1;
    }

    public int count(int what) throws IllegalArgumentException {
        switch (what) {
            case 0:
                return now.keepers;
            case 1:
                return now.livingCount();
            case 2:
                return now.day;
            case 3:
                return now.stage;
            case 4:
                return now.stage == NO_CAPSULE ? NONE : now.quorum;
            case 5:
                return now.stage == NO_CAPSULE ? NONE : now.date;
            case 6:
                return Integer.bitCount(now.sharesThere());
            case 7:
                return now.quarrellingPairs();
            case 8:
                return now.dealings;
            case 9:
                return now.refusals;
            case 10:
                return now.x;
            case 11:
                return savedCount;
            default:
                throw new IllegalArgumentException("what is not 0 to 11");
        }
    }

    public int why(int group) throws IllegalArgumentException {
        checkGroup(group);
        return refusal(group);
    }

    public int told(int shares) throws IllegalArgumentException {
        checkRange(shares, 0, MASKS - 1);
        if (!now.hasCapsuleWith(shares) || Integer.bitCount(shares) < now.quorum) {
            return NONE;
        }
        return curves.keyOf(shares);
    }

    public int possible(int shares) throws IllegalArgumentException {
        checkRange(shares, 0, MASKS - 1);
        if (!now.hasCapsuleWith(shares)) {
            return NONE;
        }
        if (Integer.bitCount(shares) < now.quorum) {
            return MODULUS;
        }
        return curves.isOneCurve(shares, now.quorum) ? 1 : 0;
    }

    // ---- what would be; nothing is changed

    public int smallest(int what) throws IllegalArgumentException {
        checkRange(what, 0, 1);
        survey.look(now);
        int best = NONE;
        for (int group = 1; group < MASKS; group++) {
            if (couldOpen(now, group)
                    && (best == NONE || Integer.bitCount(group) < Integer.bitCount(best))) {
                best = group;
            }
        }
        return what == 1 || best == NONE ? best : Integer.bitCount(best);
    }

    public int groups() {
        survey.look(now);
        int found = 0;
        for (int group = 1; group < MASKS; group++) {
            if (couldOpen(now, group)) {
                found++;
            }
        }
        return found;
    }

    public int needed() {
        if (!anyCouldOpen(now)) {
            return 0;
        }
        int mask = 0;
        for (int keeper = 0; keeper < MOST_KEEPERS; keeper++) {
            if (now.lives(keeper)) {
                spare.copyFrom(now);
                spare.bury(keeper);
                if (!anyCouldOpen(spare)) {
                    mask |= 1 << keeper;
                }
            }
        }
        return mask;
    }

    public int peace(boolean latter) {
        survey.look(now);
        int best = NONE;
        int most = 0;
        for (int one = 0; one < MOST_KEEPERS; one++) {
            for (int other = one + 1; other < MOST_KEEPERS; other++) {
                int gain = gainOfPeace(one, other);
                if (gain > most) {
                    most = gain;
                    best = latter ? other : one;
                }
            }
        }
        return best;
    }

    public double firstShare() {
        int all = Integer.bitCount(now.sharesThere());
        return all == 0 ? 1.0 : (double) now.sharesAtHome() / (double) all;
    }

    public long digest() {
        long hash = 3019L;
        for (int what = 0; what <= 11; what++) {
            hash = mix(hash, count(what));
        }
        for (int keeper = 0; keeper < now.keepers; keeper++) {
            for (int what = 0; what <= 4; what++) {
                hash = mix(hash, keeperOf(keeper, what));
            }
        }
        for (int share = 0; share < MOST_KEEPERS; share++) {
            for (int what = 0; what <= 2; what++) {
                hash = mix(hash, share(share, what));
            }
        }
        hash = mixTold(hash);
        hash = mixOpening(hash);
        hash = mix(hash, bitsOf(firstShare()));
        return text.mixCodes(mix(hash, text.length));
    }

    // ---- what the calls share

    private void checkKeeper(int keeper) {
        if (!now.hasKeeper(keeper)) {
            throw new IndexOutOfBoundsException("there is no such keeper");
        }
    }

    private void checkGroup(int group) {
        if (group < 0 || group > now.everybody()) {
            throw new IllegalArgumentException("the group has a keeper who is not there");
        }
    }

    private static void checkRange(int value, int least, int most) {
        if (value < least || value > most) {
            throw new IllegalArgumentException("an argument is out of range");
        }
    }

    private void save() {
        if (savedCount >= MOST_SAVED) {
            // the oldest one's rows are used again, so that a long run makes no new ones
            Place oldest = saved[0];
            for (int i = 1; i < MOST_SAVED; i++) {
                saved[i - 1] = saved[i];
            }
            saved[MOST_SAVED - 1] = oldest;
            savedCount = MOST_SAVED - 1;
        }
        saved[savedCount].copyFrom(now);
        savedCount++;
    }

    private int dealShares() {
        int dealt = now.drawShares();
        curves.reckon(now);
        return dealt;
    }

    private int refusal(int group) {
        survey.look(now);
        if (now.stage != SHUT) {
            return NOT_SHUT;
        }
        if (group == 0 || !now.allLive(group)) {
            return DEAD_OR_EMPTY;
        }
        if (survey.pairsIn(group) > 0) {
            return QUARRELLING;
        }
        if (now.day < now.date) {
            return TOO_EARLY;
        }
        if (Integer.bitCount(survey.sharesOf(group)) < now.quorum) {
            return TOO_FEW_SHARES;
        }
        return curves.keyOf(survey.sharesOf(group)) == now.key ? 0 : WRONG_KEY;
    }

    /** The survey must have looked at this place; its shares must have the values that now has. */
    private boolean findsKey(Place place, int group) {
        int shares = survey.sharesOf(group);
        return place.stage == SHUT && place.allLive(group)
                && Integer.bitCount(shares) >= place.quorum
                && curves.keyOf(shares) == place.key;
    }

    private boolean couldOpen(Place place, int group) {
        return survey.pairsIn(group) == 0 && findsKey(place, group);
    }

    private boolean anyCouldOpen(Place place) {
        survey.look(place);
        for (int group = 1; group < MASKS; group++) {
            if (couldOpen(place, group)) {
                return true;
            }
        }
        return false;
    }

    /** Peace helps just the groups in which this pair is the only one that quarrels. */
    private int gainOfPeace(int one, int other) {
        if (!now.areAtOdds(one, other)) {
            return 0;
        }
        int pair = 1 << one | 1 << other;
        int gain = 0;
        for (int group = pair; group < MASKS; group++) {
            if ((group & pair) == pair && survey.pairsIn(group) == 1 && findsKey(now, group)) {
                gain++;
            }
        }
        return gain;
    }

    /** Answers whether the method of the order that begins there would throw nothing; then it is done. */
    private boolean carryOut(int at) {
        int one = text.digit(at + 1);
        int other = text.digit(at + 3);
        switch (text.code(at)) {
            case 'd':
                return buryIfAlive(one);
            case 'q':
                return toggleIfThere(one, other);
            case 'h':
                return nameIfFree(one, other);
            case 't':
                return passIfInTime(text.number(at + 1));
            default:
                return renewIfShut();
        }
    }

    private boolean buryIfAlive(int keeper) {
        if (!now.lives(keeper)) {
            return false;
        }
        now.bury(keeper);
        return true;
    }

    private boolean toggleIfThere(int one, int other) {
        if (one == other || !now.hasKeeper(one) || !now.hasKeeper(other)) {
            return false;
        }
        now.toggleQuarrel(one, other);
        return true;
    }

    private boolean nameIfFree(int keeper, int heir) {
        if (!now.mayName(keeper, heir)) {
            return false;
        }
        now.nameHeir(keeper, heir);
        return true;
    }

    private boolean passIfInTime(int days) {
        if (!now.mayPass(days)) {
            return false;
        }
        now.day += days;
        return true;
    }

    private boolean renewIfShut() {
        if (!now.mayRenew()) {
            return false;
        }
        dealShares();
        return true;
    }

    private long mixTold(long before) {
        long hash = before;
        hash = mix(hash, told(7));
        hash = mix(hash, told(14));
        hash = mix(hash, told(56));
        hash = mix(hash, told(255));
        hash = mix(hash, possible(0));
        hash = mix(hash, possible(3));
        hash = mix(hash, possible(7));
        hash = mix(hash, possible(24));
        return mix(hash, possible(255));
    }

    private long mixOpening(long before) {
        long hash = mix(before, refusal(now.everybody()));
        hash = mix(hash, smallest(0));
        hash = mix(hash, smallest(1));
        hash = mix(hash, groups());
        hash = mix(hash, needed());
        hash = mix(hash, peace(false));
        return mix(hash, peace(true));
    }

    private static long mix(long hash, long value) {
        return 31L * hash + value;
    }

    /** Double.doubleToLongBits for 0.0 to 1.0, reckoned by hand: LANGUAGE.md lists no library for doubles. */
    private static long bitsOf(double part) {
        if (part <= 0.0) {
            return 0L;
        }
        double scaled = part;
        long exponent = 1023L;
        for (int step = 0; step < 1000 && scaled < 1.0; step++) {
            scaled = scaled * 2.0;
            exponent--;
        }
        long fraction = (long) ((scaled - 1.0) * 4503599627370496.0);
        return (exponent << 52) + fraction;
    }

    /** All that undo brings back. */
    private static final class Place {
        int keepers;
        int living;
        final int[] heirs = new int[MOST_KEEPERS];
        final int[] quarrels = new int[MOST_KEEPERS];
        final int[] tries = new int[MOST_KEEPERS];
        final int[] owners = new int[MOST_KEEPERS];
        final int[] values = new int[MOST_KEEPERS];
        int forged;
        int day;
        int stage;
        int key;
        int quorum;
        int date;
        int dealings;
        int refusals;
        int x;

        Place() {
            for (int i = 0; i < MOST_KEEPERS; i++) {
                heirs[i] = NONE;
                owners[i] = NONE;
            }
            stage = NO_CAPSULE;
            x = 1;
        }

        void copyFrom(Place other) {
            keepers = other.keepers;
            living = other.living;
            for (int i = 0; i < MOST_KEEPERS; i++) {
                heirs[i] = other.heirs[i];
                quarrels[i] = other.quarrels[i];
                tries[i] = other.tries[i];
                owners[i] = other.owners[i];
                values[i] = other.values[i];
            }
            forged = other.forged;
            day = other.day;
            stage = other.stage;
            key = other.key;
            quorum = other.quorum;
            date = other.date;
            dealings = other.dealings;
            refusals = other.refusals;
            x = other.x;
        }

        boolean hasKeeper(int keeper) {
            return keeper >= 0 && keeper < keepers && keeper < MOST_KEEPERS;
        }

        boolean lives(int keeper) {
            return hasKeeper(keeper) && (living >> keeper & 1) == 1;
        }

        boolean allLive(int group) {
            return (group & ~living) == 0;
        }

        int everybody() {
            return (1 << keepers) - 1;
        }

        int livingCount() {
            return Integer.bitCount(living);
        }

        int addKeeper() {
            int keeper = keepers;
            living |= 1 << keeper;
            keepers++;
            return keeper;
        }

        int bury(int keeper) {
            living &= ~(1 << keeper);
            int heir = heirs[keeper];
            boolean inherits = lives(heir);
            int passedOn = 0;
            for (int i = 0; i < MOST_KEEPERS; i++) {
                if (owners[i] == keeper) {
                    owners[i] = inherits ? heir : NONE;
                    passedOn += inherits ? 1 : 0;
                }
            }
            return passedOn;
        }

        boolean mayName(int keeper, int heir) {
            return keeper != heir && lives(keeper) && (heir == NONE || lives(heir));
        }

        int nameHeir(int keeper, int heir) {
            int before = heirs[keeper];
            heirs[keeper] = heir;
            return before;
        }

        boolean areAtOdds(int one, int other) {
            return (quarrels[one] >> other & 1) == 1;
        }

        int toggleQuarrel(int one, int other) {
            quarrels[one] ^= 1 << other;
            quarrels[other] ^= 1 << one;
            return Integer.bitCount(quarrels[one]);
        }

        int quarrellingPairs() {
            int ends = 0;
            for (int i = 0; i < MOST_KEEPERS; i++) {
                ends += Integer.bitCount(quarrels[i]);
            }
            return ends / 2;
        }

        boolean hasShare(int share) {
            return share >= 0 && share < MOST_KEEPERS && owners[share] != NONE;
        }

        int sharesThere() {
            int mask = 0;
            for (int i = 0; i < MOST_KEEPERS; i++) {
                if (owners[i] != NONE) {
                    mask |= 1 << i;
                }
            }
            return mask;
        }

        boolean hasCapsuleWith(int shares) {
            return stage != NO_CAPSULE && (shares & ~sharesThere()) == 0;
        }

        int ownedBy(int keeper) {
            int mask = 0;
            for (int i = 0; i < MOST_KEEPERS; i++) {
                if (owners[i] == keeper) {
                    mask |= 1 << i;
                }
            }
            return mask;
        }

        int sharesAtHome() {
            int found = 0;
            for (int i = 0; i < MOST_KEEPERS; i++) {
                if (owners[i] == i) {
                    found++;
                }
            }
            return found;
        }

        int replaceShare(int share, int value) {
            int before = values[share];
            values[share] = value;
            forged |= 1 << share;
            return before;
        }

        boolean mayPass(int days) {
            return day + days <= MOST_DAY;
        }

        void shut(int newKey, int newQuorum, int newDate) {
            stage = SHUT;
            key = newKey;
            quorum = newQuorum;
            date = newDate;
        }

        boolean mayRenew() {
            return stage == SHUT && livingCount() >= quorum;
        }

        int drawShares() {
            forged = 0;
            for (int i = 0; i < MOST_KEEPERS; i++) {
                owners[i] = lives(i) ? i : NONE;
                values[i] = key;
            }
            for (int power = 1; power < quorum; power++) {
                int coefficient = draw();
                for (int i = 0; i < MOST_KEEPERS; i++) {
                    values[i] = (values[i] + coefficient * powerOf(i + 1, power)) % MODULUS;
                }
            }
            dealings++;
            return livingCount();
        }

        private int draw() {
            x = (171 * x + 11213) % 53125;
            return x % MODULUS;
        }

        private static int powerOf(int base, int power) {
            int product = 1;
            for (int i = 0; i < power; i++) {
                product = product * base % MODULUS;
            }
            return product;
        }

        void countTry(int group, boolean opens) {
            for (int i = 0; i < MOST_KEEPERS; i++) {
                tries[i] += group >> i & 1;
            }
            if (opens) {
                stage = OPEN;
            } else {
                refusals++;
            }
        }
    }

    /** For each set of shares the key that its lowest ones tell, as many as the quorum, or all if fewer. */
    private static final class Curves {
        // the inverses of 1 to 7, by which the distance of two shares divides
        private static final int[] INVERSES = {0, 1, 126, 84, 63, 201, 42, 36};

        private final int[] keys = new int[MASKS];

        /**
         * Neville's scheme: the curve through a set follows from those through it without one of two
         * shares; both are smaller masks, which stand by then.
         */
        void reckon(Place place) {
            for (int high = 0; high < MOST_KEEPERS; high++) {
                int highBit = 1 << high;
                keys[highBit] = place.values[high];
                for (int low = 0; low < high; low++) {
                    int lowBit = 1 << low;
                    for (int rest = 0; rest < lowBit; rest++) {
                        int shares = rest | lowBit | highBit;
                        if (Integer.bitCount(shares) > place.quorum) {
                            keys[shares] = keys[rest | lowBit];
                        } else {
                            int risen = (high + 1) * keys[rest | lowBit] - (low + 1) * keys[rest | highBit];
                            keys[shares] = Math.floorMod(risen, MODULUS) * INVERSES[high - low] % MODULUS;
                        }
                    }
                }
            }
        }

        int keyOf(int shares) {
            return shares >= 0 && shares < MASKS ? keys[shares] : NONE;
        }

        /**
         * Without its lowest share a set tells by a curve that has all but one point in common with the
         * one before: if both also tell the same key, they are the same curve.
         */
        boolean isOneCurve(int shares, int quorum) {
            int rest = shares;
            for (int i = 0; i < MOST_KEEPERS && Integer.bitCount(rest) > quorum; i++) {
                int fewer = rest & (rest - 1);
                if (keyOf(fewer) != keyOf(rest)) {
                    return false;
                }
                rest = fewer;
            }
            return true;
        }
    }

    /** For each group of keepers what it owns and how many of its pairs quarrel. */
    private static final class Survey {
        private final int[] owned = new int[MASKS];
        private final int[] pairs = new int[MASKS];

        void look(Place place) {
            for (int keeper = 0; keeper < MOST_KEEPERS; keeper++) {
                int bit = 1 << keeper;
                int shares = place.ownedBy(keeper);
                for (int rest = 0; rest < bit; rest++) {
                    owned[rest | bit] = owned[rest] | shares;
                    pairs[rest | bit] = pairs[rest] + Integer.bitCount(place.quarrels[keeper] & rest);
                }
            }
        }

        int sharesOf(int group) {
            return group >= 0 && group < MASKS ? owned[group] : 0;
        }

        int pairsIn(int group) {
            return group >= 0 && group < MASKS ? pairs[group] : 0;
        }
    }

    /** The buffer, read as days. */
    private static final class DaysText {
        private static final int WRONG = -1;
        private static final int ORDER = 0;
        private static final int LAST_DIGIT = 1;
        private static final int QUARREL_DIGIT = 2;
        private static final int DASH = 3;
        private static final int HEIR_DIGIT = 4;
        private static final int ARROW = 5;
        private static final int FIRST_OF_DAYS = 6;
        private static final int TWO_MORE_OF_DAYS = 7;
        private static final int ONE_MORE_OF_DAYS = 8;
        private static final int ORDER_ENDS = 9;

        private final int[] codes = new int[MOST_CODES];
        private int length;

        int add(int code) {
            if (length >= 0 && length < MOST_CODES) {
                codes[length] = code;
                length++;
            }
            return length;
        }

        int empty() {
            int before = length;
            length = 0;
            return before;
        }

        int code(int at) {
            return at >= 0 && at < length && at < MOST_CODES ? codes[at] : 0;
        }

        int digit(int at) {
            return isKeeperDigit(code(at)) ? code(at) - '0' : NONE;
        }

        int number(int at) {
            int value = 0;
            for (int i = at; i < at + 3 && isDigit(code(i)); i++) {
                value = 10 * value + code(i) - '0';
            }
            return value;
        }

        boolean beginsOrder(int at) {
            return at == 0 || code(at - 1) == ';';
        }

        int errorIndex() {
            int state = ORDER;
            for (int at = 0; at < length; at++) {
                state = after(state, code(at));
                if (state == WRONG) {
                    return at;
                }
            }
            return length;
        }

        boolean isWhole() {
            int state = ORDER;
            for (int at = 0; at < length; at++) {
                state = after(state, code(at));
            }
            return state == TWO_MORE_OF_DAYS || state == ONE_MORE_OF_DAYS || state == ORDER_ENDS;
        }

        long mixCodes(long before) {
            long hash = before;
            for (int at = 0; at < length; at++) {
                hash = mix(hash, code(at));
            }
            return hash;
        }

        private static int after(int state, int code) {
            switch (state) {
                case ORDER:
                    return afterLetter(code);
                case LAST_DIGIT:
                    return isKeeperDigit(code) ? ORDER_ENDS : WRONG;
                case QUARREL_DIGIT:
                    return isKeeperDigit(code) ? DASH : WRONG;
                case DASH:
                    return code == '-' ? LAST_DIGIT : WRONG;
                case HEIR_DIGIT:
                    return isKeeperDigit(code) ? ARROW : WRONG;
                case ARROW:
                    return code == '>' ? LAST_DIGIT : WRONG;
                case FIRST_OF_DAYS:
                    return isDigit(code) && code != '0' ? TWO_MORE_OF_DAYS : WRONG;
                case TWO_MORE_OF_DAYS:
                    return isDigit(code) ? ONE_MORE_OF_DAYS : afterOrder(code);
                case ONE_MORE_OF_DAYS:
                    return isDigit(code) ? ORDER_ENDS : afterOrder(code);
                case ORDER_ENDS:
                    return afterOrder(code);
                default:
                    return WRONG;
            }
        }

        private static int afterLetter(int code) {
            switch (code) {
                case 'd':
                    return LAST_DIGIT;
                case 'q':
                    return QUARREL_DIGIT;
                case 'h':
                    return HEIR_DIGIT;
                case 't':
                    return FIRST_OF_DAYS;
                case 'r':
                    return ORDER_ENDS;
                default:
                    return WRONG;
            }
        }

        private static int afterOrder(int code) {
            return code == ';' ? ORDER : WRONG;
        }

        private static boolean isKeeperDigit(int code) {
            return code >= '0' && code <= '7';
        }

        private static boolean isDigit(int code) {
            return code >= '0' && code <= '9';
        }
    }
}
