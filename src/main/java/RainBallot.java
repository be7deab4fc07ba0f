/**
 * Whose turn it is to rain: a town of streets over which it rains on one street a day, by ballot.
 * No call makes an object: all rows stand from the constructor on and are used again.
 */
public final class RainBallot {
    public static final int NONE = -1, UNKNOWN = -2, OUTSIDE = -3, NOT = -4, FULL = -5;

    private static final int MOST_STREETS = 8;
    private static final int MOST_LETTERS = 160;
    private static final int MOST_CLAUSES = 14;
    private static final int MOST_NEED = 20;
    private static final int MOST_VOTERS = 20;
    private static final int MOST_WATER = 99;
    private static final int LEAST_CAP = 5;
    private static final int FIRST_CAP = 30;
    private static final int MOST_INCHES = 20;
    private static final int FIRST_INCHES = 8;
    private static final int MOST_HOSE = 20;
    private static final int LAST_DAY = 999;
    private static final int MOST_UNDONE = 8;
    private static final int MOST_KEPT = 2;
    private static final int MOST_FORETOLD = 30;
    private static final int MOST_ROW = 4;
    private static final int MOST_SEEN = 6;
    private static final int MOST_SEEN_DAY = 20;
    private static final int ODDS = 10;

    private static final int GARDEN = 0;
    private static final int ORCHARD = 1;
    private static final int ALLEY = 2;
    private static final int LAUNDRY = 3;

    private final Text text = new Text();
    private final Plan told = new Plan();
    private final Plan draft = new Plan();
    private final Moment now = new Moment();
    private final Moment trial = new Moment();
    private final Past past = new Past();
    private final Shelf shelf = new Shelf();
    private final Sightings sightings = new Sightings();
    private final Ballot ballot = new Ballot();
    private final RowSearch rows = new RowSearch();

    public RainBallot() {
    }

    // ---- what is told

    public int write(int letter) {
        if (letter < 0 || letter > 255) {
            return OUTSIDE;
        }
        return text.add((char) letter) ? text.length : FULL;
    }

    public int erase() {
        int had = text.length;
        text.length = 0;
        return had;
    }

    public int fault() {
        return text.read(told, draft);
    }

    public int town() {
        if (text.read(told, draft) != NONE) {
            return NOT;
        }
        told.copyFrom(draft);
        now.begin(told);
        past.clear();
        shelf.clear();
        sightings.size = 0;
        text.length = 0;
        return text.clauses;
    }

    public int street(int street, int what) {
        if (!told.has(street)) {
            return UNKNOWN;
        }
        switch (what) {
            case 0:
                return told.kind[street];
            case 1:
                return told.need[street];
            case 2:
                return now.voters[street];
            case 3:
                return now.water[street];
            case 4:
                return told.slope[street];
            case 5:
                return Ballot.choiceOf(told, now, street);
            case 6:
                ballot.choose(told, now);
                ballot.tally(now, 0);
                return ballot.votes[street];
            default:
                return OUTSIDE;
        }
    }

    public int as(int street, int kind) {
        if (!told.has(street)) {
            return UNKNOWN;
        }
        if (kind < 0 || kind > LAUNDRY + 1) {
            return OUTSIDE;
        }
        return isUnder(told.kind[street], kind) ? told.wants(street) : NOT;
    }

    // ---- what is done

    public int day() {
        if (now.number >= LAST_DAY) {
            return FULL;
        }
        past.remember(now);
        return passDay(now);
    }

    public int hose(int street, int w) {
        if (!told.has(street)) {
            return UNKNOWN;
        }
        if (w < 1 || w > MOST_HOSE) {
            return OUTSIDE;
        }
        past.remember(now);
        now.water[street] = Math.min(MOST_WATER, now.water[street] + w);
        return now.water[street];
    }

    public int poll(int street, int v) {
        if (!told.has(street)) {
            return UNKNOWN;
        }
        if (v < 0 || v > MOST_VOTERS) {
            return OUTSIDE;
        }
        past.remember(now);
        int had = now.voters[street];
        now.voters[street] = v;
        return had;
    }

    public int undo() {
        return past.recall(now) ? past.size : NOT;
    }

    public int keep(int k) {
        if (!isShelf(k)) {
            return UNKNOWN;
        }
        shelf.put(k, now);
        return now.number;
    }

    public int back(int k) {
        if (!isShelf(k)) {
            return UNKNOWN;
        }
        if (!shelf.take(k, now)) {
            return NOT;
        }
        past.clear();
        return now.number;
    }

    // ---- foretold

    public int where(int n) {
        if (n < 1 || n > MOST_FORETOLD) {
            return OUTSIDE;
        }
        passTrialDays(n);
        return trial.rained;
    }

    public int wet(int street, int n) {
        if (!told.has(street)) {
            return UNKNOWN;
        }
        if (n < 0 || n > MOST_FORETOLD) {
            return OUTSIDE;
        }
        passTrialDays(n);
        return trial.water[street];
    }

    public int carry(int street) {
        if (!told.has(street)) {
            return UNKNOWN;
        }
        int allowed = told.votingBits() & ~(1 << street);
        int best = NONE;
        int fewest = MOST_STREETS + 1;
        ballot.choose(told, now);
        // Rising numbers: of sets with as few streets the least is met first.
        for (int set = 0; set < 1 << told.streets; set++) {
            if ((set & ~allowed) == 0 && Integer.bitCount(set) < fewest && isCarriedWith(set, street)) {
                fewest = Integer.bitCount(set);
                best = set;
            }
        }
        return best;
    }

    public int reach(int street) {
        if (!told.has(street)) {
            return UNKNOWN;
        }
        int bits = 0;
        for (int source = 0; source < told.streets; source++) {
            trial.copyFrom(now);
            if ((trial.fall(told, source) >> street & 1) != 0) {
                bits |= 1 << source;
            }
        }
        return bits;
    }

    public int month(int n, int k) {
        if (n < 1 || n > MOST_ROW || k < NONE || k >= MOST_ROW) {
            return OUTSIDE;
        }
        if (told.streets == 0 || k >= n) {
            return NONE;
        }
        rows.find(told, now, n);
        return k == NONE ? rows.most : rows.best[k];
    }

    // ---- what was seen

    public int seen(int street, int n) {
        if (street != NONE && !told.has(street)) {
            return UNKNOWN;
        }
        if (n < 1 || n > MOST_SEEN_DAY) {
            return OUTSIDE;
        }
        return sightings.add(street, n) ? sightings.size : FULL;
    }

    public int forget() {
        int had = sightings.size;
        sightings.size = 0;
        return had;
    }

    public int polls(int street) {
        if (!told.has(street)) {
            return UNKNOWN;
        }
        int bits = 0;
        for (int voters = 0; voters <= MOST_VOTERS; voters++) {
            trial.copyFrom(now);
            trial.voters[street] = voters;
            if (isAllSeenInTrial()) {
                bits |= 1 << voters;
            }
        }
        return bits;
    }

    public int chance(int street, int q, int part) {
        if (street != NONE && !told.has(street)) {
            return UNKNOWN;
        }
        if (q < 0 || q > ODDS || part < 0 || part > 1) {
            return OUTSIDE;
        }
        long above = weightOfCarried(street, q);
        long below = weightOf(0, 0);
        long common = commonDivisor(above, below);
        if (common <= 0) {
            return OUTSIDE;
        }
        return (int) ((part == 0 ? above : below) / common);
    }

    public int count(int what) {
        switch (what) {
            case 0:
                return told.streets;
            case 1:
                return now.number;
            case 2:
                return told.cap;
            case 3:
                return told.inches;
            case 4:
                return now.allWater(told.streets);
            case 5:
                return now.contentBits(told);
            case 6:
                return now.rained;
            case 7:
                return sightings.size;
            case 8:
                return past.size;
            case 9:
                return text.length;
            default:
                return OUTSIDE;
        }
    }

    private static boolean isShelf(int k) {
        return k >= 0 && k < MOST_KEPT;
    }

    // Taken as a kind, a street's own kind stands one higher: 0 is any street.
    private static boolean isUnder(int own, int taken) {
        if (taken == 0 || taken == own + 1) {
            return true;
        }
        return taken == GARDEN + 1 && (own == ORCHARD || own == ALLEY);
    }

    private int passDay(Moment moment) {
        ballot.choose(told, moment);
        ballot.tally(moment, 0);
        int street = ballot.winner();
        moment.pass(told, street);
        return street;
    }

    private void passTrialDays(int days) {
        trial.copyFrom(now);
        for (int i = 0; i < days; i++) {
            passDay(trial);
        }
    }

    private boolean isCarriedWith(int set, int street) {
        ballot.tallyTurned(now, set, street);
        return ballot.winner() == street;
    }

    private boolean isAllSeenInTrial() {
        int last = sightings.lastDay();
        for (int n = 1; n <= last; n++) {
            if (!sightings.allow(passDay(trial), n)) {
                return false;
            }
        }
        return true;
    }

    private long weightOfCarried(int street, int q) {
        long sum = 0;
        ballot.choose(told, now);
        for (int home = 0; home < 1 << told.streets; home++) {
            ballot.tally(now, home);
            if (ballot.winner() == street) {
                sum += weightOf(home, q);
            }
        }
        return sum;
    }

    // Of all ways (ten for each street): in how many just these streets' voters are at home.
    private long weightOf(int home, int q) {
        long weight = 1;
        for (int s = 0; s < told.streets; s++) {
            weight *= (home >> s & 1) != 0 ? q : ODDS - q;
        }
        return weight;
    }

    private static long commonDivisor(long a, long b) {
        long high = a;
        long low = b;
        // Euclid ends within 40 steps for numbers up to 10 to the 8th.
        for (int i = 0; i < 100 && low != 0; i++) {
            long rest = high % low;
            high = low;
            low = rest;
        }
        return high;
    }

    /** What the texts told: days, hoses and polls leave it as it is. */
    private static final class Plan {
        private final int[] kind = new int[MOST_STREETS];
        private final int[] need = new int[MOST_STREETS];
        private final int[] voters = new int[MOST_STREETS];
        private final int[] water = new int[MOST_STREETS];
        private final int[] slope = new int[MOST_STREETS];
        private int streets = 0;
        private int cap = FIRST_CAP;
        private int inches = FIRST_INCHES;

        private void clear() {
            streets = 0;
            cap = FIRST_CAP;
            inches = FIRST_INCHES;
        }

        private void copyFrom(Plan other) {
            System.arraycopy(other.kind, 0, kind, 0, MOST_STREETS);
            System.arraycopy(other.need, 0, need, 0, MOST_STREETS);
            System.arraycopy(other.voters, 0, voters, 0, MOST_STREETS);
            System.arraycopy(other.water, 0, water, 0, MOST_STREETS);
            System.arraycopy(other.slope, 0, slope, 0, MOST_STREETS);
            streets = other.streets;
            cap = other.cap;
            inches = other.inches;
        }

        private boolean has(int s) {
            return s >= 0 && s < streets && s < MOST_STREETS;
        }

        private void add(int newKind, int newNeed, int newVoters, int newWater) {
            if (streets >= MOST_STREETS) {
                return;
            }
            kind[streets] = newKind;
            need[streets] = newNeed;
            voters[streets] = newVoters;
            water[streets] = newWater;
            slope[streets] = NONE;
            streets++;
        }

        private void tilt(int from, int to) {
            if (has(from) && has(to)) {
                slope[from] = to;
            }
        }

        private int wants(int s) {
            if (s < 0 || s >= streets || kind[s] == LAUNDRY) {
                return 0;
            }
            return kind[s] == ORCHARD ? 2 * need[s] : need[s];
        }

        private int votingBits() {
            int bits = 0;
            for (int s = 0; s < streets; s++) {
                if (kind[s] != ALLEY) {
                    bits |= 1 << s;
                }
            }
            return bits;
        }
    }

    /** How it stands on one day: what days, hoses and polls change. */
    private static final class Moment {
        private final int[] water = new int[MOST_STREETS];
        private final int[] voters = new int[MOST_STREETS];
        private int rained = NONE;
        private int number = 0;

        private void begin(Plan plan) {
            System.arraycopy(plan.water, 0, water, 0, MOST_STREETS);
            System.arraycopy(plan.voters, 0, voters, 0, MOST_STREETS);
            rained = NONE;
            number = 0;
        }

        private void copyFrom(Moment other) {
            System.arraycopy(other.water, 0, water, 0, MOST_STREETS);
            System.arraycopy(other.voters, 0, voters, 0, MOST_STREETS);
            rained = other.rained;
            number = other.number;
        }

        private void pass(Plan plan, int street) {
            fall(plan, street);
            for (int s = 0; s < plan.streets; s++) {
                water[s] = Math.max(0, water[s] - 1);
            }
            rained = street;
            number++;
        }

        /** Rain on a street, or on none, with its run-off: the streets, by bits, on which some fell. */
        private int fall(Plan plan, int street) {
            int wetted = 0;
            int at = street;
            int falling = plan.inches;
            for (int step = 0; step < MOST_STREETS && falling > 0; step++) {
                if (!plan.has(at) || (wetted >> at & 1) != 0) {
                    break;
                }
                wetted |= 1 << at;
                int full = water[at] + falling;
                water[at] = Math.min(full, plan.cap);
                falling = full - water[at];
                at = plan.slope[at];
            }
            return wetted;
        }

        /** The least wet street but one (NONE: of all), of several the least. */
        private int driest(Plan plan, int but) {
            int found = NONE;
            int least = 0;
            for (int s = 0; s < plan.streets; s++) {
                if (s != but && (found == NONE || water[s] < least)) {
                    found = s;
                    least = water[s];
                }
            }
            return found;
        }

        private boolean isContent(Plan plan, int s) {
            return plan.has(s) && water[s] >= plan.wants(s);
        }

        private int contentBits(Plan plan) {
            int bits = 0;
            for (int s = 0; s < plan.streets; s++) {
                if (isContent(plan, s)) {
                    bits |= 1 << s;
                }
            }
            return bits;
        }

        private int allWater(int streets) {
            int sum = 0;
            for (int s = 0; s < streets && s < MOST_STREETS; s++) {
                sum += water[s];
            }
            return sum;
        }
    }

    /** Who gives votes to whom, and how many each street gets. */
    private static final class Ballot {
        private final int[] choice = new int[MOST_STREETS];
        private final int[] votes = new int[MOST_STREETS];
        private int streets = 0;

        private static int choiceOf(Plan plan, Moment moment, int s) {
            if (!plan.has(s) || plan.kind[s] == ALLEY) {
                return NONE;
            }
            if (plan.kind[s] == LAUNDRY) {
                return moment.driest(plan, s);
            }
            return moment.isContent(plan, s) ? moment.driest(plan, NONE) : s;
        }

        private void choose(Plan plan, Moment moment) {
            streets = plan.streets;
            for (int s = 0; s < streets; s++) {
                choice[s] = choiceOf(plan, moment, s);
            }
        }

        private void tally(Moment moment, int home) {
            tallyAll(moment, home, 0, NONE);
        }

        private void tallyTurned(Moment moment, int turned, int toward) {
            tallyAll(moment, 0, turned, toward);
        }

        /** Without the voters of some streets; with some streets' votes turned toward one. */
        private void tallyAll(Moment moment, int home, int turned, int toward) {
            for (int s = 0; s < streets; s++) {
                votes[s] = 0;
            }
            for (int s = 0; s < streets; s++) {
                int to = (turned >> s & 1) != 0 ? toward : choice[s];
                boolean counts = (home >> s & 1) == 0 && to != moment.rained;
                if (counts && to >= 0 && to < streets) {
                    votes[to] += moment.voters[s];
                }
            }
        }

        private int winner() {
            int first = NONE;
            int most = 0;
            for (int s = 0; s < streets; s++) {
                if (votes[s] > most) {
                    most = votes[s];
                    first = s;
                } else if (votes[s] == most) {
                    first = NONE;
                }
            }
            return first;
        }
    }

    /** The latest moments, each as it was ahead of something that can be undone. */
    private static final class Past {
        private final Moment[] moments = new Moment[MOST_UNDONE];
        private int next = 0;
        private int size = 0;

        private Past() {
            for (int i = 0; i < MOST_UNDONE; i++) {
                moments[i] = new Moment();
            }
        }

        private void clear() {
            next = 0;
            size = 0;
        }

        private void remember(Moment moment) {
            moments[next].copyFrom(moment);
            next = next + 1 < MOST_UNDONE ? next + 1 : 0;
            size = Math.min(size + 1, MOST_UNDONE);
        }

        private boolean recall(Moment moment) {
            if (size == 0) {
                return false;
            }
            next = next > 0 ? next - 1 : MOST_UNDONE - 1;
            size--;
            moment.copyFrom(moments[next]);
            return true;
        }
    }

    /** The moments that are kept. */
    private static final class Shelf {
        private final Moment[] moments = new Moment[MOST_KEPT];
        private final boolean[] used = new boolean[MOST_KEPT];

        private Shelf() {
            for (int i = 0; i < MOST_KEPT; i++) {
                moments[i] = new Moment();
            }
        }

        private void clear() {
            for (int i = 0; i < MOST_KEPT; i++) {
                used[i] = false;
            }
        }

        private void put(int k, Moment moment) {
            if (isShelf(k)) {
                moments[k].copyFrom(moment);
                used[k] = true;
            }
        }

        private boolean take(int k, Moment moment) {
            if (!isShelf(k) || !used[k]) {
                return false;
            }
            moment.copyFrom(moments[k]);
            return true;
        }
    }

    /** On which day to come it is seen to have rained where. */
    private static final class Sightings {
        private final int[] place = new int[MOST_SEEN];
        private final int[] time = new int[MOST_SEEN];
        private int size = 0;

        private boolean add(int street, int n) {
            if (size >= MOST_SEEN) {
                return false;
            }
            place[size] = street;
            time[size] = n;
            size++;
            return true;
        }

        private int lastDay() {
            int last = 0;
            for (int i = 0; i < size; i++) {
                last = Math.max(last, time[i]);
            }
            return last;
        }

        private boolean allow(int street, int n) {
            for (int i = 0; i < size; i++) {
                if (time[i] == n && place[i] != street) {
                    return false;
                }
            }
            return true;
        }
    }

    /** The row of rainy streets behind which most streets have what they want. */
    private static final class RowSearch {
        private final Moment[] behind = new Moment[MOST_ROW + 1];
        private final int[] row = new int[MOST_ROW];
        private final int[] best = new int[MOST_ROW];
        private int length = 0;
        private int most = NONE;

        private RowSearch() {
            for (int i = 0; i <= MOST_ROW; i++) {
                behind[i] = new Moment();
            }
        }

        private void find(Plan plan, Moment moment, int n) {
            length = Math.min(n, MOST_ROW);
            most = NONE;
            behind[0].copyFrom(moment);
            extend(this, plan, 0);
        }

        private static void extend(RowSearch search, Plan plan, int depth) {
            if (depth < 0 || depth >= search.length || depth >= MOST_ROW) {
                search.judge(plan);
                return;
            }
            // No row is better than one by which all are content: rows behind it need no look.
            for (int s = 0; s < plan.streets && search.most < plan.streets; s++) {
                search.row[depth] = s;
                Moment next = search.behind[depth + 1];
                next.copyFrom(search.behind[depth]);
                next.pass(plan, s);
                extend(search, plan, depth + 1);
            }
        }

        private void judge(Plan plan) {
            int content = Integer.bitCount(behind[length].contentBits(plan));
            if (content > most) {
                most = content;
                System.arraycopy(row, 0, best, 0, MOST_ROW);
            }
        }
    }

    /** THE TEXT, and a reader that goes over it token by token. */
    private static final class Text {
        private final char[] letters = new char[MOST_LETTERS];
        private int length = 0;
        private int start = 0;
        private int end = 0;
        private int clauses = 0;

        private boolean add(char letter) {
            if (length >= MOST_LETTERS) {
                return false;
            }
            letters[length] = letter;
            length++;
            return true;
        }

        /** Does the clauses up to the first fault: its place, or NONE. */
        private int read(Plan told, Plan plan) {
            // On a copy, so that a text with a fault changes nothing.
            plan.copyFrom(told);
            end = 0;
            clauses = 0;
            step();
            for (int i = 0; i < MOST_CLAUSES; i++) {
                if (!readClause(plan)) {
                    return start;
                }
                clauses++;
                if (start >= length) {
                    return NONE;
                }
                if (letters[start] != ';' || clauses >= MOST_CLAUSES) {
                    return start;
                }
                step();
            }
            return start;
        }

        /** Goes to the next token; both its ends are the length if there is none. */
        private void step() {
            start = end;
            while (start < length && letters[start] == ' ') {
                start++;
            }
            end = start;
            if (isDigitAt(start)) {
                while (isDigitAt(end) && end < length) {
                    end++;
                }
            } else if (isSmallAt(start)) {
                while (isSmallAt(end) && end < length) {
                    end++;
                }
            } else if (end < length) {
                end++;
            }
        }

        private boolean isDigitAt(int i) {
            return i >= 0 && i < length && letters[i] >= '0' && letters[i] <= '9';
        }

        private boolean isSmallAt(int i) {
            return i >= 0 && i < length && letters[i] >= 'a' && letters[i] <= 'z';
        }

        private boolean isWord(String word) {
            if (end - start != word.length() || end > length) {
                return false;
            }
            for (int i = 0; i < word.length(); i++) {
                if (letters[start + i] != word.charAt(i)) {
                    return false;
                }
            }
            return true;
        }

        private boolean readClause(Plan plan) {
            if (isWord("town")) {
                plan.clear();
                step();
                return true;
            }
            if (isWord("slope")) {
                return readSlope(plan);
            }
            if (isWord("cap")) {
                step();
                int cap = readNumber(LEAST_CAP, MOST_WATER, NONE);
                plan.cap = cap == NONE ? plan.cap : cap;
                return cap != NONE;
            }
            if (isWord("inches")) {
                step();
                int inches = readNumber(1, MOST_INCHES, NONE);
                plan.inches = inches == NONE ? plan.inches : inches;
                return inches != NONE;
            }
            return readStreet(plan, kindOfWord());
        }

        private int kindOfWord() {
            if (isWord("garden")) {
                return GARDEN;
            }
            if (isWord("orchard")) {
                return ORCHARD;
            }
            if (isWord("alley")) {
                return ALLEY;
            }
            return isWord("laundry") ? LAUNDRY : NONE;
        }

        private boolean readStreet(Plan plan, int kind) {
            if (kind == NONE || plan.streets >= MOST_STREETS) {
                return false;
            }
            step();
            int need = readNumber(0, MOST_NEED, NONE);
            if (need == NONE) {
                return false;
            }
            int voters = readNumber(0, MOST_VOTERS, NONE);
            if (voters == NONE) {
                return false;
            }
            int water = readNumber(0, MOST_WATER, NONE);
            if (water == NONE) {
                return false;
            }
            plan.add(kind, need, voters, water);
            return true;
        }

        private boolean readSlope(Plan plan) {
            step();
            int from = readNumber(0, plan.streets - 1, NONE);
            if (from == NONE) {
                return false;
            }
            int to = readNumber(0, plan.streets - 1, from);
            if (to == NONE) {
                return false;
            }
            plan.tilt(from, to);
            return true;
        }

        /** The number that stands here, if it can stand here; NONE leaves the reader at its token. */
        private int readNumber(int least, int most, int but) {
            if (!isDigitAt(start) || end - start > 2) {
                return NONE;
            }
            int number = 0;
            for (int i = start; i < end && i < length; i++) {
                number = 10 * number + (letters[i] - '0');
            }
            if (number < least || number > most || number == but) {
                return NONE;
            }
            step();
            return number;
        }
    }
}
