/** Each turns his multiples: a corridor of doors, and people who turn doors by their numbers. */
public final class TurnsMultiples {
    private static final int MOST_DOORS = 12;
    private static final int EVERY_DOOR = 4095;
    private static final int MOST_PEOPLE = 7;
    private static final int MOST_ROWS = 2187;
    private static final int MOST_LETTERS = 64;
    private static final int MOST_LOGGED = 10;
    private static final int MOST_UNKNOWN = 3;
    private static final int MOST_DRAWN = 99;
    private static final int ALL_BUT_SIGN = 0x7fffffff;
    private static final int FARTHEST_DOOR = 1000000000;
    // The greatest number whose square is no farther.
    private static final int FARTHEST_ROOT = 31622;
    private static final int FARTHEST_COUNTED = 2000;
    private static final int MOST_NTH = 40;
    private static final int UNKNOWN = 9;
    private static final int ANY = 9;
    private static final int NONE = -9;
    private static final int NOBODY = 1;
    private static final int OTHER = 2;
    private static final int STATE = 3;
    private static final int BELOW = 4;
    private static final int ROOM = 6;

    private final Letters letters = new Letters();
    private final Corridor now = new Corridor();
    private final Corridor trial = new Corridor();
    private final Corridor kept = new Corridor();
    private final Rows rows = new Rows();
    private final Game game = new Game();
    private final int[] wayRow = new int[MOST_DOORS + 1];
    private final int[] refusals = new int[ROOM + 1];
    private boolean hasImage;

    public TurnsMultiples() {
    }

    // ---- the house

    public int letter(int c) {
        if (c < 0) {
            return refuse(BELOW);
        }
        if (c > 255 || letters.length >= MOST_LETTERS) {
            return refuse(ROOM);
        }
        return letters.append(c);
    }

    public int house() {
        int answer = readHouse();
        letters.wipe();
        return answer;
    }

    private int readHouse() {
        int misplaced = letters.misplaced();
        if (misplaced >= 0) {
            return -1000 - misplaced;
        }
        // A later statement may be at fault, so all is tried on a copy first.
        trial.become(now);
        letters.rewind();
        int statements = 0;
        while (letters.at < letters.length && statements < MOST_LETTERS) {
            int place = letters.at;
            if (!letters.readStatement() || !trial.obeys(letters)) {
                return -2000 - place;
            }
            statements++;
        }
        now.become(trial);
        return statements;
    }

    public int door(int door, int what) {
        if (!now.hasDoor(door)) {
            return refuse(NOBODY);
        }
        switch (what) {
            case 0:
                return wayOf(now.stand, door);
            case 1:
                return now.wishFor(door);
            case 2:
                return now.isStuck(door) ? 1 : 0;
            default:
                return refuse(OTHER);
        }
    }

    public int person(int person, int what) {
        Goer goer = now.goerOf(person);
        if (goer == null) {
            return refuse(NOBODY);
        }
        switch (what) {
            case 0:
                return goer.kind;
            case 1:
                return goer.first;
            case 2:
                return goer.second;
            case 3:
                return goer.cost;
            case 4:
                return now.turnsOf(person);
            default:
                return refuse(OTHER);
        }
    }

    // ---- what is done in the corridor

    public int go(int person) {
        if (now.goerOf(person) == null) {
            return refuse(NOBODY);
        }
        return now.goAlong(person);
    }

    public int turn(int door) {
        if (!now.hasDoor(door)) {
            return refuse(NOBODY);
        }
        if (now.isStuck(door)) {
            return refuse(STATE);
        }
        now.stand = turned(now.stand, bitOf(door), now.colours);
        return wayOf(now.stand, door);
    }

    public int state() {
        return now.stateOf(now.stand);
    }

    public int wished() {
        return now.isWish(now.stand) ? 1 : 0;
    }

    // ---- the one way to every state

    public int way(int state, int number, int what) {
        if (state < 0 || state >= power(now.colours, now.doors) || !now.hasDoor(number)) {
            return refuse(NOBODY);
        }
        if (what != 0 && what != 1) {
            return refuse(OTHER);
        }
        spread(state);
        if (what == 0) {
            solveByMultiples();
        } else {
            solveByDivisors();
        }
        return number < wayRow.length ? wayRow[number] : 0;
    }

    private void spread(int state) {
        int rest = state;
        int colours = now.colours;
        for (int door = 1; door <= now.doors && door < wayRow.length; door++) {
            wayRow[door] = remainder(rest, colours);
            rest = quotient(rest, colours);
        }
    }

    // Only the number 1 turns door 1, so each number is settled once all below it are.
    private void solveByMultiples() {
        for (int number = 1; number <= now.doors; number++) {
            for (int door = 2 * number; door <= now.doors; door += number) {
                takeBack(door, number);
            }
        }
    }

    // Only the greatest number turns the last door, so here they are settled from the end.
    private void solveByDivisors() {
        for (int number = now.doors; number >= 1; number--) {
            for (int door = 1; door < number; door++) {
                if (goesInto(door, number)) {
                    takeBack(door, number);
                }
            }
        }
    }

    private void takeBack(int door, int number) {
        if (door >= 0 && door < wayRow.length && number >= 0 && number < wayRow.length) {
            wayRow[door] = remainder(wayRow[door] + now.colours - wayRow[number], now.colours);
        }
    }

    // ---- rows of people

    public int can() {
        rows.lead(now, now.stand);
        int many = 0;
        for (int row = 0; row < rows.size; row++) {
            if (now.isWish(rows.endOf(row))) {
                many++;
            }
        }
        return many;
    }

    public int fewest() {
        int row = fewestRow();
        return row < 0 ? NONE : rows.goingsIn(row);
    }

    public int cheapest() {
        rows.lead(now, now.stand);
        int least = NONE;
        for (int row = 0; row < rows.size; row++) {
            if (now.isWish(rows.endOf(row))) {
                int cost = rows.costOf(row, now);
                if (least == NONE || cost < least) {
                    least = cost;
                }
            }
        }
        return least;
    }

    public int how(int person) {
        if (now.goerOf(person) == null) {
            return refuse(NOBODY);
        }
        int row = fewestRow();
        return row < 0 ? NONE : rows.timesIn(row, person);
    }

    // The rows come in the order by people, fewer times first: so of several the first stays.
    private int fewestRow() {
        rows.lead(now, now.stand);
        int best = -1;
        int least = 0;
        for (int row = 0; row < rows.size; row++) {
            if (now.isWish(rows.endOf(row))) {
                int goings = rows.goingsIn(row);
                if (best < 0 || goings < least) {
                    best = row;
                    least = goings;
                }
            }
        }
        return best;
    }

    public int nothing() {
        rows.lead(now, now.stand);
        return rows.endingAt(now.stand);
    }

    // Every state that can be come to is come to by as many rows as change nothing.
    public int states() {
        rows.lead(now, now.stand);
        return quotient(rows.size, rows.endingAt(now.stand));
    }

    public int keys(int what) {
        if (what != 0 && what != 1) {
            return refuse(OTHER);
        }
        int best = NONE;
        for (int who = 0; who < 1 << now.people; who++) {
            boolean fewer = best == NONE || Integer.bitCount(who) < Integer.bitCount(best);
            if (fewer && rows.bringAll(now, who)) {
                best = who;
            }
        }
        return best == NONE || what == 1 ? best : Integer.bitCount(best);
    }

    public int been() {
        rows.lead(now, 0);
        return rows.endingAt(now.stand);
    }

    public int sure() {
        rows.lead(now, 0);
        int always = (1 << now.people) - 1;
        boolean found = false;
        for (int row = 0; row < rows.size; row++) {
            if (rows.endOf(row) == now.stand) {
                found = true;
                always &= rows.goersIn(row);
            }
        }
        return found ? always : 0;
    }

    // ---- for ever

    public int forEver(int n) {
        if (n < 1) {
            return refuse(BELOW);
        }
        if (n > FARTHEST_DOOR) {
            return refuse(ROOM);
        }
        return farWay(n);
    }

    public int nth(int k) {
        if (k < 1) {
            return refuse(BELOW);
        }
        if (k > MOST_NTH) {
            return refuse(ROOM);
        }
        int found = 0;
        int far = 0;
        while (found < k && far < FARTHEST_COUNTED) {
            far++;
            if (farWay(far) != 0) {
                found++;
            }
        }
        return far;
    }

    public int open(int n) {
        if (n < 1) {
            return refuse(BELOW);
        }
        if (n > FARTHEST_COUNTED) {
            return refuse(ROOM);
        }
        int many = 0;
        for (int far = 1; far <= n; far++) {
            if (farWay(far) != 0) {
                many++;
            }
        }
        return many;
    }

    // A far door is turned once by each of its divisors.
    private int farWay(int far) {
        return remainder(divisorsOf(far), now.colours);
    }

    // ---- the log

    public int log(int person) {
        if (person != UNKNOWN && now.goerOf(person) == null) {
            return refuse(NOBODY);
        }
        if (now.logged >= MOST_LOGGED) {
            return refuse(ROOM);
        }
        return now.note(person);
    }

    // Each goer who turns the door is forced on; all others may go while it does not stand at 0.
    public int order(int door) {
        if (!now.hasDoor(door)) {
            return refuse(NOBODY);
        }
        int way = wayOf(now.stand, door);
        int turning = 0;
        int shut = 0;
        for (int i = 0; i < now.logged; i++) {
            if ((now.turnsOf(now.loggedAt(i)) & bitOf(door)) != 0) {
                turning++;
                if (remainder(way + turning, now.colours) == 0) {
                    shut++;
                }
            }
        }
        return way == 0 && turning == 0 ? now.logged : shut;
    }

    public int fills() {
        int unknown = now.unknown();
        if (unknown > MOST_UNKNOWN) {
            return refuse(ROOM);
        }
        int known = now.behindLog(0);
        int all = power(now.people, unknown);
        int many = 0;
        for (int fill = 0; fill < all; fill++) {
            if (filled(known, unknown, fill) == now.stand) {
                many++;
            }
        }
        return many;
    }

    // The order of goings does not change how it stands: so the unknown ones may go behind all others.
    private int filled(int known, int unknown, int fill) {
        int stand = known;
        int rest = fill;
        for (int i = 0; i < unknown; i++) {
            stand = turned(stand, now.turnsOf(remainder(rest, now.people)), now.colours);
            rest = quotient(rest, now.people);
        }
        return stand;
    }

    public int run(int door) {
        if (!now.hasDoor(door)) {
            return refuse(NOBODY);
        }
        if (now.unknown() > 0) {
            return refuse(STATE);
        }
        return wayOf(now.behindLog(now.stand), door);
    }

    public int judge() {
        if (now.unknown() > 0) {
            return refuse(STATE);
        }
        int stand = now.stand;
        for (int i = 0; i < now.logged; i++) {
            int next = turned(stand, now.turnsOf(now.loggedAt(i)), now.colours);
            if ((notAtZero(stand) & ~notAtZero(next)) != 0) {
                return i;
            }
            stand = next;
        }
        return NONE;
    }

    public int clear() {
        int had = now.logged;
        now.logged = 0;
        return had;
    }

    // ---- a match of two

    public int match() {
        rows.lead(now, now.stand);
        return game.judged(now, rows);
    }

    // ---- goings by seeds

    // It is asked how it would stand then: nobody goes.
    public int seeds(int n, int z) {
        if (n < 0) {
            return refuse(BELOW);
        }
        if (n > MOST_DRAWN) {
            return refuse(ROOM);
        }
        if (now.people < 1) {
            return refuse(STATE);
        }
        int stand = now.stand;
        int seed = z;
        for (int i = 0; i < n; i++) {
            seed = seed * 1664525 + 1013904223;
            int person = remainder((seed & ALL_BUT_SIGN) / 256, now.people);
            stand = turned(stand, now.turnsOf(person), now.colours);
        }
        return now.stateOf(stand);
    }

    // ---- the image

    public int image() {
        kept.become(now);
        hasImage = true;
        return kept.people;
    }

    public int on() {
        if (!hasImage) {
            return refuse(STATE);
        }
        now.become(kept);
        return now.people;
    }

    // ---- counts

    public int count(int what) {
        switch (what) {
            case 0:
                return now.doors;
            case 1:
                return now.colours;
            case 2:
                return now.people;
            case 3:
                return Integer.bitCount(notAtZero(now.stand));
            case 4:
                return Integer.bitCount(now.stuck);
            case 5:
                return now.logged;
            case 6:
                return letters.length;
            case 7:
                return now.goings;
            default:
                return refusalsTold(what - 10);
        }
    }

    private int refusalsTold(int number) {
        return number >= 1 && number < refusals.length ? refusals[number] : NONE;
    }

    private int refuse(int number) {
        if (number >= 0 && number < refusals.length) {
            refusals[number]++;
        }
        return -number;
    }

    // ---- how doors stand: bits 0 .. 11 are the doors at 1, bits 12 .. 23 those at 2,
    // ---- so that all doors of a goer turn at once

    private static int bitOf(int door) {
        return 1 << (door - 1);
    }

    private static int bitAt(int door, int way) {
        if (way == 0) {
            return 0;
        }
        return way == 1 ? bitOf(door) : bitOf(door) << MOST_DOORS;
    }

    private static int wayOf(int stand, int door) {
        if ((stand & bitAt(door, 1)) != 0) {
            return 1;
        }
        return (stand & bitAt(door, 2)) != 0 ? 2 : 0;
    }

    private static int notAtZero(int stand) {
        return (stand | stand >> MOST_DOORS) & EVERY_DOOR;
    }

    private static int turned(int stand, int turns, int colours) {
        if (colours == 2) {
            return stand ^ turns;
        }
        int ones = stand & EVERY_DOOR;
        int twos = stand >> MOST_DOORS & EVERY_DOOR;
        int zeros = EVERY_DOOR & ~(ones | twos);
        int onesThen = ones & ~turns | zeros & turns;
        int twosThen = twos & ~turns | ones & turns;
        return onesThen | twosThen << MOST_DOORS;
    }

    // ---- numbers

    private static boolean goesInto(int small, int great) {
        return small > 0 && great % small == 0;
    }

    private static int remainder(int number, int by) {
        return by > 0 ? number % by : 0;
    }

    private static int quotient(int number, int by) {
        return by > 0 ? number / by : 0;
    }

    private static int power(int base, int exponent) {
        int power = 1;
        for (int i = 0; i < exponent; i++) {
            power *= base;
        }
        return power;
    }

    // How often each prime is in it, one more, all these by one another.
    private static int divisorsOf(int number) {
        int divisors = 1;
        int rest = number;
        for (int prime = 2; prime <= FARTHEST_ROOT && prime * prime <= rest; prime++) {
            int times = 0;
            while (times < 31 && goesInto(prime, rest)) {
                rest /= prime;
                times++;
            }
            divisors *= times + 1;
        }
        return rest > 1 ? divisors * 2 : divisors;
    }

    /** Somebody who goes along: his kind tells which doors he turns. */
    private static final class Goer {
        private final int kind;
        private final int first;
        private final int second;
        private final int cost;

        private Goer(int kind, int first, int second, int cost) {
            this.kind = kind;
            this.first = first;
            this.second = second;
            this.cost = cost;
        }

        private boolean isGoerTo(int door) {
            boolean byFirst = goesInto(first, door);
            boolean bySecond = goesInto(second, door);
            switch (kind) {
                case 0:
                    return byFirst;
                case 1:
                    return goesInto(door, first);
                case 2:
                    return byFirst && bySecond;
                case 3:
                    return byFirst || bySecond;
                case 4:
                    return byFirst != bySecond;
                case 5:
                    return door >= first && door <= second;
                default:
                    return false;
            }
        }
    }

    /** The house, how it stands, the goings so far and the log: all that an image keeps. */
    private static final class Corridor {
        private int doors = 6;
        private int colours = 2;
        private int people;
        private final Goer[] goers = new Goer[MOST_PEOPLE];
        private int stuck;
        // The wish: the bits that matter, and how they must be.
        private int minded;
        private int wanted;
        private int stand;
        private int goings;
        private final int[] notes = new int[MOST_LOGGED];
        private int logged;

        private void become(Corridor other) {
            doors = other.doors;
            colours = other.colours;
            people = other.people;
            for (int i = 0; i < goers.length && i < other.goers.length; i++) {
                goers[i] = other.goers[i];
            }
            stuck = other.stuck;
            minded = other.minded;
            wanted = other.wanted;
            stand = other.stand;
            goings = other.goings;
            for (int i = 0; i < notes.length && i < other.notes.length; i++) {
                notes[i] = other.notes[i];
            }
            logged = other.logged;
        }

        private boolean hasDoor(int door) {
            return door >= 1 && door <= doors;
        }

        private boolean isStuck(int door) {
            return (stuck & bitOf(door)) != 0;
        }

        private int wishFor(int door) {
            return (minded & bitOf(door)) == 0 ? ANY : wayOf(wanted, door);
        }

        private boolean isWish(int how) {
            return (how & minded) == wanted;
        }

        private int stateOf(int how) {
            int number = 0;
            for (int door = doors; door >= 1; door--) {
                number = number * colours + wayOf(how, door);
            }
            return number;
        }

        private Goer goerOf(int person) {
            return person >= 0 && person < people && person < goers.length ? goers[person] : null;
        }

        private int turnsOf(int person) {
            Goer goer = goerOf(person);
            int turns = 0;
            if (goer != null) {
                for (int door = 1; door <= doors; door++) {
                    if (goer.isGoerTo(door)) {
                        turns |= bitOf(door);
                    }
                }
            }
            return turns & ~stuck;
        }

        private int goAlong(int person) {
            int turns = turnsOf(person);
            stand = turned(stand, turns, colours);
            goings++;
            return Integer.bitCount(turns);
        }

        private int note(int person) {
            if (logged >= 0 && logged < notes.length) {
                notes[logged] = person;
                logged++;
            }
            return logged;
        }

        private int loggedAt(int i) {
            return i >= 0 && i < logged && i < notes.length ? notes[i] : UNKNOWN;
        }

        private int unknown() {
            int many = 0;
            for (int i = 0; i < logged; i++) {
                if (loggedAt(i) == UNKNOWN) {
                    many++;
                }
            }
            return many;
        }

        // Unknown ones turn nothing here: there is no person of their number.
        private int behindLog(int from) {
            int how = from;
            for (int i = 0; i < logged; i++) {
                how = turned(how, turnsOf(loggedAt(i)), colours);
            }
            return how;
        }

        private boolean obeys(Letters told) {
            switch (told.head) {
                case 'n':
                    return obeysDoors(told.numberAt(0));
                case 'k':
                    return obeysColours(told.numberAt(0));
                case 'p':
                    return obeysPerson(told);
                case 's':
                    return obeysStuck(told.numberAt(0));
                case 'w':
                    return obeysWish(told);
                case 'h':
                    return obeysStand(told);
                default:
                    return false;
            }
        }

        private boolean obeysDoors(int number) {
            if (number < 1 || number > MOST_DOORS) {
                return false;
            }
            doors = number;
            empty();
            return true;
        }

        private boolean obeysColours(int number) {
            if (number < 2 || number > 3) {
                return false;
            }
            colours = number;
            empty();
            return true;
        }

        private void empty() {
            stand = 0;
            stuck = 0;
            minded = 0;
            wanted = 0;
        }

        private boolean obeysPerson(Letters told) {
            int first = told.numberAt(0);
            int second = told.numberAt(1);
            if (!isGoerNumber(first) || !isGoerNumber(second)) {
                return false;
            }
            if (people < 0 || people >= goers.length) {
                return false;
            }
            goers[people] = new Goer(told.kind, first, second, told.numberAt(2));
            people++;
            return true;
        }

        private static boolean isGoerNumber(int number) {
            return number >= 1 && number <= MOST_DOORS;
        }

        private boolean obeysStuck(int number) {
            if (!hasDoor(number)) {
                return false;
            }
            stuck ^= bitOf(number);
            return true;
        }

        private boolean obeysWish(Letters told) {
            if (told.digitCount != doors) {
                return false;
            }
            int mind = 0;
            int want = 0;
            for (int door = 1; door <= doors; door++) {
                int way = told.digitAt(door - 1);
                if (way != ANY) {
                    if (way >= colours) {
                        return false;
                    }
                    mind |= bitAt(door, 1) | bitAt(door, 2);
                    want |= bitAt(door, way);
                }
            }
            minded = mind;
            wanted = want;
            return true;
        }

        private boolean obeysStand(Letters told) {
            if (told.digitCount != doors) {
                return false;
            }
            int how = 0;
            for (int door = 1; door <= doors; door++) {
                int way = told.digitAt(door - 1);
                if (way >= colours) {
                    return false;
                }
                how |= bitAt(door, way);
            }
            stand = how;
            return true;
        }
    }

    /** The letters of a house, read one statement after the other. */
    private static final class Letters {
        private static final char[] KINDS = {'m', 'd', 'b', 'e', 'x', 'u'};
        private static final int END = -1;

        private final int[] signs = new int[MOST_LETTERS];
        private int length;
        private int at;
        // What the statement read last tells.
        private int head;
        private int kind;
        private final int[] numbers = new int[3];
        private int numberCount;
        private final int[] digits = new int[MOST_DOORS];
        private int digitCount;

        private int append(int sign) {
            if (length >= 0 && length < signs.length) {
                signs[length] = sign;
                length++;
            }
            return length;
        }

        private void wipe() {
            length = 0;
        }

        private void rewind() {
            at = 0;
        }

        private int numberAt(int i) {
            return i >= 0 && i < numberCount && i < numbers.length ? numbers[i] : 0;
        }

        private int digitAt(int i) {
            return i >= 0 && i < digitCount && i < digits.length ? digits[i] : 0;
        }

        /** The place of the first letter with which no house can go on; -1: none. */
        private int misplaced() {
            rewind();
            // The statements are counted, but for the first there is no choice: it must be there.
            for (int read = 0; read < MOST_LETTERS && (read == 0 || at < length); read++) {
                if (!readStatement()) {
                    return at;
                }
            }
            return -1;
        }

        // Where this is false, the reading stands at the first letter that does not fit.
        private boolean readStatement() {
            head = signHere();
            numberCount = 0;
            if (takes('n') || takes('s')) {
                return readDigits(2) && takes(';');
            }
            if (takes('k')) {
                return readDigits(1) && takes(';');
            }
            if (takes('w') || takes('h')) {
                return readDigits(MOST_DOORS) && takes(';');
            }
            return takes('p') && readKind()
                    && readDigits(2) && takes(',')
                    && readDigits(2) && takes(',')
                    && readDigits(1) && takes(';');
        }

        private int signHere() {
            return at >= 0 && at < length && at < signs.length ? signs[at] : END;
        }

        private boolean takes(char sign) {
            if (signHere() != sign) {
                return false;
            }
            at++;
            return true;
        }

        private boolean readKind() {
            for (int i = 0; i < KINDS.length; i++) {
                if (takes(KINDS[i])) {
                    kind = i;
                    return true;
                }
            }
            return false;
        }

        private boolean readDigits(int most) {
            int number = 0;
            digitCount = 0;
            while (digitCount < most && digitCount < digits.length && isDigitHere()) {
                digits[digitCount] = signHere() - '0';
                number = number * 10 + digits[digitCount];
                digitCount++;
                at++;
            }
            if (numberCount < numbers.length) {
                numbers[numberCount] = number;
                numberCount++;
            }
            return digitCount > 0;
        }

        private boolean isDigitHere() {
            int sign = signHere();
            return sign >= '0' && sign <= '9';
        }
    }

    /** All rows of people: a row's digits, the first person's ahead, are how often each goes. */
    private static final class Rows {
        private final int[] ends = new int[MOST_ROWS];
        private final int[] weights = new int[MOST_PEOPLE];
        private final int[] pivots = new int[MOST_DOORS + 1];
        private int size;
        private int people;
        private int colours;

        /** Finds how it stands behind each row, from a told stand. */
        private void lead(Corridor corridor, int from) {
            people = corridor.people;
            colours = corridor.colours;
            ends[0] = from;
            size = 1;
            for (int person = people - 1; person >= 0; person--) {
                if (person < weights.length) {
                    weights[person] = size;
                    goOnceMore(corridor.turnsOf(person));
                }
            }
        }

        // The rows so far are those in which one person more does not go: each of his times goes on from them.
        private void goOnceMore(int turns) {
            int block = size;
            int all = block * colours;
            for (int row = block; row < all && row < ends.length; row++) {
                ends[row] = turned(ends[row - block], turns, colours);
            }
            size = all;
        }

        private int endOf(int row) {
            return row >= 0 && row < size && row < ends.length ? ends[row] : 0;
        }

        private int endingAt(int stand) {
            int many = 0;
            for (int row = 0; row < size; row++) {
                if (endOf(row) == stand) {
                    many++;
                }
            }
            return many;
        }

        private int weightOf(int person) {
            return person >= 0 && person < people && person < weights.length ? weights[person] : 0;
        }

        private int timesIn(int row, int person) {
            return remainder(quotient(row, weightOf(person)), colours);
        }

        private int goingsIn(int row) {
            int goings = 0;
            for (int person = 0; person < people; person++) {
                goings += timesIn(row, person);
            }
            return goings;
        }

        private int costOf(int row, Corridor corridor) {
            int cost = 0;
            for (int person = 0; person < people; person++) {
                Goer goer = corridor.goerOf(person);
                if (goer != null) {
                    cost += timesIn(row, person) * goer.cost;
                }
            }
            return cost;
        }

        private int goersIn(int row) {
            int goers = 0;
            for (int person = 0; person < people; person++) {
                if (timesIn(row, person) > 0) {
                    goers |= 1 << person;
                }
            }
            return goers;
        }

        /** The row out of which a person's going once leads to this one. */
        private int before(int row, int person) {
            int weight = weightOf(person);
            return timesIn(row, person) > 0 ? row - weight : row + (colours - 1) * weight;
        }

        /** Whether told people can bring every state: then each door has a pivot of its own. */
        private boolean bringAll(Corridor corridor, int who) {
            for (int door = 0; door < pivots.length; door++) {
                pivots[door] = 0;
            }
            int found = 0;
            for (int person = 0; person < corridor.people; person++) {
                if ((who >> person & 1) != 0 && findPivot(corridor, corridor.turnsOf(person))) {
                    found++;
                }
            }
            return found == corridor.doors;
        }

        private boolean findPivot(Corridor corridor, int turns) {
            int left = turns;
            for (int door = 1; door <= corridor.doors && door < pivots.length; door++) {
                int way = wayOf(left, door);
                if (way != 0) {
                    if (pivots[door] == 0) {
                        pivots[door] = left;
                        return true;
                    }
                    int times = way == wayOf(pivots[door], door) ? corridor.colours - 1 : 1;
                    left = added(left, pivots[door], times, corridor.colours);
                }
            }
            return false;
        }

        private static int added(int stand, int more, int times, int colours) {
            int sum = stand;
            for (int i = 0; i < times; i++) {
                sum = turned(sum, more & EVERY_DOOR, colours);
                sum = turned(sum, more >> MOST_DOORS, colours);
                sum = turned(sum, more >> MOST_DOORS, colours);
            }
            return sum;
        }
    }

    /** A match of two, judged from its ends backwards. */
    private static final class Game {
        private static final int LOSES = 0;
        private static final int WINS = 1;
        private static final int NEITHER = 2;

        private final int[] verdicts = new int[MOST_ROWS];
        private final int[] hopes = new int[MOST_ROWS];
        private final int[] judgedRows = new int[MOST_ROWS];
        private int judgedCount;

        /** What is to come for who is to go, at the row in which nobody has gone. */
        private int judged(Corridor corridor, Rows rows) {
            begin(corridor, rows);
            for (int next = 0; next < judgedCount && next < judgedRows.length; next++) {
                int row = judgedRows[next];
                for (int person = 0; person < corridor.people; person++) {
                    tellBack(rows.before(row, person), verdictOf(row), rows);
                }
            }
            return verdictOf(0);
        }

        private void begin(Corridor corridor, Rows rows) {
            judgedCount = 0;
            for (int row = 0; row < rows.size && row < verdicts.length && row < hopes.length; row++) {
                verdicts[row] = NEITHER;
                hopes[row] = corridor.people;
                if (corridor.isWish(rows.endOf(row))) {
                    settle(row, LOSES);
                }
            }
        }

        // Who can leave a lost row to the other wins; who can leave him none but won ones loses.
        private void tellBack(int row, int verdict, Rows rows) {
            if (row < 0 || row >= rows.size || row >= hopes.length || verdictOf(row) != NEITHER) {
                return;
            }
            if (verdict == LOSES) {
                settle(row, WINS);
                return;
            }
            hopes[row]--;
            if (hopes[row] == 0) {
                settle(row, LOSES);
            }
        }

        private int verdictOf(int row) {
            return row >= 0 && row < verdicts.length ? verdicts[row] : NEITHER;
        }

        private void settle(int row, int verdict) {
            if (row >= 0 && row < verdicts.length && judgedCount >= 0 && judgedCount < judgedRows.length) {
                verdicts[row] = verdict;
                judgedRows[judgedCount] = row;
                judgedCount++;
            }
        }
    }
}
