import java.math.BigInteger;
import java.util.Arrays;

/** Promises 1 to 33: what is answered at each limit that the document names, just inside it and just outside it. */
public final class TurnsMultiplesEdgesTest extends Dues {
    private static final int LEAST = Integer.MIN_VALUE;
    private static final int GREATEST = Integer.MAX_VALUE;
    private static final String IDLE = "pu2,1,0;";

    public static void main(String[] args) {
        atFirst();
        atFirstNobodyGoes();
        doorNumbers();
        doorWays();
        doorWhat();
        turnedModuloColours();
        stuckIsNeverTurned();
        stuckInAllThatIsThought();
        personNumbers();
        personWhat();
        multiples();
        divisors();
        both();
        either();
        justOne();
        upward();
        eachKindInFewDoors();
        goingsTurnNoneToAll();
        goingsPeople();
        stateLeastAndGreatest();
        stateOfEachDoor();
        wishedAtEachDoor();
        wayStates();
        wayNumbers();
        wayOfEachState();
        wayWithStuckOnes();
        canNoneAndAll();
        canNotMoreThanColours();
        fewestLeastAndMost();
        cheapestLeastAndMost();
        howFirstOfSeveral();
        howNone();
        nothingLeastAndMost();
        statesLeastAndMost();
        keysJustEnough();
        keysLeastOfSeveral();
        keysOfManyDoors();
        keysNoStuckOnes();
        beenLeastAndMost();
        sureNoneAndAll();
        forEverEnds();
        nthEnds();
        openEnds();
        logPeople();
        logRoom();
        orderEmptyAndFull();
        orderWraps();
        orderOfOthers();
        fillsUnknown();
        fillsOfNobody();
        runEmptyAndFull();
        judgeFirstAndLast();
        judgeOnlyWhatComesToZero();
        clearEmptyAndFull();
        matchOfNobody();
        matchSoNow();
        matchWonLostNeither();
        matchRoundToZero();
        seedsNoneAndMost();
        seedsWrapAround();
        seedsCut();
        imageOfNobodyAndOfSeven();
        imageIsTheLast();
        onHasAllAsThen();
        onHasTheWholeLog();
        onKeepsWhatIsNoneOfIt();
        countDoorsAndColours();
        countOpenAndStuck();
        countLogLettersGoings();
        countRefusals();
        countOthers();
        callsOfAnObject();
        end("every edge holds");
    }

    private static int power(int base, int exponent) {
        int power = 1;
        for (int i = 0; i < exponent; i++) {
            power *= base;
        }
        return power;
    }

    /** A house of told doors and colours, all of them standing alike. */
    private static String all(int doors, int colours, int way) {
        return "n" + doors + ";k" + colours + ";h" + String.valueOf(way).repeat(doors) + ";";
    }

    /** People of whom each turns a door of his own, from the first on. */
    private static String ones(int from, int to, int cost) {
        StringBuilder people = new StringBuilder();
        for (int door = from; door <= to; door++) {
            people.append('p').append('u').append(door).append(',').append(door).append(',').append(cost).append(';');
        }
        return people.toString();
    }

    // ---- promise 1

    private static void atFirst() {
        sentence("Promise 1: Six DOORS, all at 0");
        TurnsMultiples x = new TurnsMultiples();
        int[] counts = {6, 2, 0, 0, 0, 0, 0, 0};
        for (int what = 0; what < counts.length; what++) {
            due("count(" + what + ")", x.count(what), counts[what]);
        }
        for (int door = 1; door <= 6; door++) {
            due("way " + door, x.door(door, 0), 0);
            due("wish " + door, x.door(door, 1), 9);
            due("stuck " + door, x.door(door, 2), 0);
        }
        due("door 0", x.door(0, 0), -1);
        due("door 7", x.door(7, 0), -1);
        due("state", x.state(), 0);
        due("wished", x.wished(), 1);
        refused(x, 2);
    }

    private static void atFirstNobodyGoes() {
        sentence("Promise 1: no PEOPLE, an empty LOG, no IMAGE");
        TurnsMultiples x = new TurnsMultiples();
        int[] answers = {x.person(0, 0), x.go(0), x.how(0), x.log(0), x.on(), x.seeds(0, 0), x.house(), x.clear(),
            x.can(), x.fewest(), x.cheapest(), x.nothing(), x.states(), x.keys(0), x.keys(1), x.been(), x.sure(),
            x.fills(), x.run(1), x.judge(), x.match(), x.order(1), x.way(63, 1, 0), x.forEver(1), x.nth(1), x.open(1)};
        int[] dues = {-1, -1, -1, -1, -3, -3, -1000, 0,
            1, 0, 0, 1, 1, -9, -9, 1, 0,
            1, 0, -9, 0, 0, 1, 1, 1, 1};
        due("answers of a new object", answers, dues);
        refused(x, 4, 0, 2);
    }

    // ---- promises 4 and 7: doors

    private static void doorNumbers() {
        sentence("Promises 4, 7, 24, 26: Of a DOOR (1 .. n): -1");
        int[] numbers = {1, 2, 6, 11, 12};
        for (int n : numbers) {
            TurnsMultiples x = housed("n" + n + ";");
            int[] outside = {LEAST, -1, 0, n + 1, n + 2, n + 32, GREATEST};
            for (int door : outside) {
                due("door(" + door + ", 0) of " + n, x.door(door, 0), -1);
                due("turn(" + door + ") of " + n, x.turn(door), -1);
                due("order(" + door + ") of " + n, x.order(door), -1);
                due("run(" + door + ") of " + n, x.run(door), -1);
            }
            int open = 0;
            for (int door = 1; door <= n; door++) {
                due("turn(" + door + ") of " + n, x.turn(door), 1);
                open += 1 << (door - 1);
                due("state behind it", x.state(), open);
                due("door(" + door + ", 0) of " + n, x.door(door, 0), 1);
                due("run(" + door + ") of " + n, x.run(door), 1);
                due("order(" + door + ") of " + n, x.order(door), 0);
            }
            refused(x, 4 * outside.length);
        }
    }

    private static void doorWays() {
        sentence("Promise 4: 0 how it stands, 1 its WISH (9 any), 2 1 STUCK");
        TurnsMultiples x = housed("n12;k3;h012012012012;w901201201209;s1;s12;");
        int[] wishes = {9, 0, 1, 2, 0, 1, 2, 0, 1, 2, 0, 9};
        for (int door = 1; door <= 12; door++) {
            due("way of " + door, x.door(door, 0), (door - 1) % 3);
            due("wish of " + door, x.door(door, 1), wishes[door - 1]);
            due("stuck " + door, x.door(door, 2), door == 1 || door == 12 ? 1 : 0);
        }
    }

    private static void doorWhat() {
        sentence("Promise 4: -2");
        TurnsMultiples x = housed("n1;h1;w0;s1;");
        int[] whats = {LEAST, -1, 0, 1, 2, 3, GREATEST};
        int[] dues = {-2, -2, 1, 0, 1, -2, -2};
        for (int i = 0; i < whats.length; i++) {
            due("door(1, " + whats[i] + ")", x.door(1, whats[i]), dues[i]);
        }
        refused(x, 0, 4);
    }

    private static void turnedModuloColours() {
        sentence("turned once: 1 more, modulo COLOURS");
        for (int colours = 2; colours <= 3; colours++) {
            for (int n = 1; n <= 12; n += 11) {
                TurnsMultiples x = housed("n" + n + ";k" + colours + ";pm1,1,1;");
                for (int i = 1; i <= 2 * colours; i++) {
                    due("turn " + i + " of the last", x.turn(n), i % colours);
                    due("its way", x.door(n, 0), i % colours);
                }
                for (int i = 1; i <= 2 * colours; i++) {
                    due("go " + i, x.go(0), n);
                    due("the first", x.door(1, 0), i % colours);
                    due("the last", x.door(n, 0), i % colours);
                    due("not at 0", x.count(3), i % colours == 0 ? 0 : n);
                }
                retell(x, all(n, colours, colours - 1));
                due("the greatest way, turned", x.turn(1), 0);
            }
        }
    }

    private static void stuckIsNeverTurned() {
        sentence("a STUCK one is never turned; Promise 7: -3 STUCK");
        TurnsMultiples x = housed("n12;k3;pm1,1,1;h111111111111;s1;s12;");
        due("turn(1)", x.turn(1), -3);
        due("turn(12)", x.turn(12), -3);
        due("turn(2)", x.turn(2), 2);
        due("turn(11)", x.turn(11), 2);
        due("go(0)", x.go(0), 10);
        due("way of 1", x.door(1, 0), 1);
        due("way of 2", x.door(2, 0), 0);
        due("way of 3", x.door(3, 0), 2);
        due("way of 11", x.door(11, 0), 0);
        due("way of 12", x.door(12, 0), 1);
        retell(x, "s1;");
        due("turn(1), no more stuck", x.turn(1), 2);
        due("go(0)", x.go(0), 11);
        due("turn(12), still stuck", x.turn(12), -3);
        refused(x, 0, 0, 3);
        TurnsMultiples alone = housed("n1;pm1,1,1;s1;");
        due("the only one", alone.turn(1), -3);
        due("who turns none", alone.go(0), 0);
        due("state", alone.state(), 0);
    }

    private static void stuckInAllThatIsThought() {
        sentence("a STUCK one is never turned, in mind neither");
        TurnsMultiples x = housed("n2;pm1,1,1;h11;s2;w00;");
        due("can", x.can(), 0);
        due("fewest", x.fewest(), -9);
        due("match", x.match(), 2);
        due("states", x.states(), 2);
        due("been, from all at 0", x.been(), 0);
        due("seeds", x.seeds(1, 0), 2);
        logs(x, 0, 0);
        due("order of the stuck one", x.order(2), 0);
        due("run of the stuck one", x.run(2), 1);
        due("judge", x.judge(), 0);
        retell(x, "h01;");
        due("judge: only the other", x.judge(), 1);
        due("fills", x.fills(), 0);
        retell(x, "h00;");
        due("fills, at 0", x.fills(), 1);
        due("order of the stuck one at 0", x.order(2), 2);
    }

    // ---- promise 5: people and kinds

    private static void personNumbers() {
        sentence("Promise 5, 6, 14: Of a PERSON: -1");
        for (int people = 0; people <= 7; people++) {
            TurnsMultiples x = housed("n12;", "n12;" + ones(1, people, 0));
            int[] outside = {LEAST, -1, people, people + 1, 9, GREATEST};
            for (int person : outside) {
                due("person(" + person + ", 1) of " + people, x.person(person, 1), -1);
                due("how(" + person + ") of " + people, x.how(person), -1);
                due("go(" + person + ") of " + people, x.go(person), -1);
            }
            for (int person = 0; person < people; person++) {
                due("person(" + person + ", 1) of " + people, x.person(person, 1), person + 1);
                due("how(" + person + ") of " + people, x.how(person), 0);
                due("go(" + person + ") of " + people, x.go(person), 1);
            }
            due("state", x.state(), (1 << people) - 1);
            refused(x, 3 * outside.length);
        }
    }

    private static void personWhat() {
        sentence("Promise 5: 0 KIND, 1 A, 2 B, 3 COST, 4 DOORS he turns: -2");
        TurnsMultiples x = housed("n12;pe12,11,9;");
        int[] whats = {LEAST, -1, 0, 1, 2, 3, 4, 5, GREATEST};
        int[] dues = {-2, -2, 3, 12, 11, 9, bits(11, 12), -2, -2};
        for (int i = 0; i < whats.length; i++) {
            due("person(0, " + whats[i] + ")", x.person(0, whats[i]), dues[i]);
        }
        refused(x, 0, 4);
    }

    private static void turns(int doors, String who, int want) {
        due("doors that " + who + " turns, of " + doors, housed("n" + doors + ";p" + who + ",0;").person(0, 4), want);
    }

    private static void multiples() {
        sentence("m MULTIPLES: those into which A goes");
        turns(12, "m1,12", 4095);
        turns(12, "m2,5", bits(2, 4, 6, 8, 10, 12));
        turns(12, "m6,1", bits(6, 12));
        turns(11, "m6,1", bits(6));
        turns(6, "m6,1", bits(6));
        turns(5, "m6,1", 0);
        turns(12, "m7,1", bits(7));
        turns(12, "m12,1", bits(12));
        turns(11, "m12,1", 0);
        turns(1, "m1,2", bits(1));
        turns(1, "m2,1", 0);
    }

    private static void divisors() {
        sentence("d DIVISORS: those that go into A");
        turns(12, "d1,12", bits(1));
        turns(12, "d12,1", bits(1, 2, 3, 4, 6, 12));
        turns(11, "d12,1", bits(1, 2, 3, 4, 6));
        turns(12, "d11,1", bits(1, 11));
        turns(11, "d11,1", bits(1, 11));
        turns(10, "d11,1", bits(1));
        turns(12, "d2,3", bits(1, 2));
        turns(1, "d12,1", bits(1));
        turns(12, "d9,1", bits(1, 3, 9));
    }

    private static void both() {
        sentence("b BOTH: those into which A and B go");
        turns(12, "b3,4", bits(12));
        turns(11, "b3,4", 0);
        turns(12, "b4,6", bits(12));
        turns(12, "b5,7", 0);
        turns(12, "b6,6", bits(6, 12));
        turns(12, "b1,1", 4095);
        turns(12, "b1,5", bits(5, 10));
        turns(12, "b5,1", bits(5, 10));
        turns(12, "b12,12", bits(12));
        turns(12, "b2,3", bits(6, 12));
        turns(5, "b2,3", 0);
        turns(6, "b2,3", bits(6));
    }

    private static void either() {
        sentence("e EITHER: A or B or both");
        turns(12, "e3,4", bits(3, 4, 6, 8, 9, 12));
        turns(11, "e3,4", bits(3, 4, 6, 8, 9));
        turns(12, "e6,6", bits(6, 12));
        turns(12, "e1,12", 4095);
        turns(12, "e12,1", 4095);
        turns(12, "e11,12", bits(11, 12));
        turns(11, "e11,12", bits(11));
        turns(10, "e11,12", 0);
        turns(1, "e1,2", bits(1));
    }

    private static void justOne() {
        sentence("x JUST ONE: A or B, not both");
        turns(12, "x3,4", bits(3, 4, 6, 8, 9));
        turns(12, "x6,6", 0);
        turns(12, "x1,1", 0);
        turns(12, "x1,12", 4095 - bits(12));
        turns(11, "x1,12", 2047);
        turns(12, "x12,1", 4095 - bits(12));
        turns(12, "x1,2", bits(1, 3, 5, 7, 9, 11));
        turns(12, "x2,4", bits(2, 6, 10));
        turns(12, "x4,2", bits(2, 6, 10));
        turns(1, "x1,2", bits(1));
    }

    private static void upward() {
        sentence("u UPWARD: those of numbers A .. B");
        turns(12, "u1,12", 4095);
        turns(12, "u1,1", bits(1));
        turns(12, "u12,12", bits(12));
        turns(12, "u2,11", 4095 - bits(1, 12));
        turns(12, "u11,12", bits(11, 12));
        turns(12, "u2,1", 0);
        turns(12, "u12,1", 0);
        turns(12, "u12,11", 0);
        turns(5, "u4,6", bits(4, 5));
        turns(5, "u5,12", bits(5));
        turns(5, "u6,12", 0);
        turns(1, "u1,12", bits(1));
        turns(1, "u2,12", 0);
    }

    private static void eachKindInFewDoors() {
        sentence("Promise 5: DOORS he turns (bits: DOOR i bit i less 1; STUCK ones not)");
        TurnsMultiples x = housed("n12;pm1,1,0;pd12,1,0;pb2,3,0;pe3,4,0;px3,4,0;pu6,12,0;", "s1;s6;s12;");
        int free = 4095 - bits(1, 6, 12);
        int[] dues = {free, bits(2, 3, 4), 0, bits(3, 4, 8, 9), bits(3, 4, 8, 9), bits(7, 8, 9, 10, 11)};
        for (int person = 0; person < dues.length; person++) {
            due("with stuck ones, " + person, x.person(person, 4), dues[person]);
        }
        retell(x, "s6;");
        due("6 no more stuck", x.person(2, 4), bits(6));
        retell(x, "n1;");
        for (int person = 0; person < dues.length; person++) {
            due("of one door, " + person, x.person(person, 4), person < 2 ? 1 : 0);
        }
    }

    // ---- promise 6

    private static void goingsTurnNoneToAll() {
        sentence("Promise 6: how many DOORS were turned");
        TurnsMultiples x = housed("n12;k3;pm1,1,0;pu2,12,0;pu12,12,0;pu12,11,0;");
        int[] dues = {12, 11, 1, 0};
        for (int person = 0; person < dues.length; person++) {
            due("go(" + person + ")", x.go(person), dues[person]);
            due("goings so far", x.count(7), person + 1);
        }
        due("the first", x.door(1, 0), 1);
        due("the last", x.door(12, 0), 0);
        retell(x, "n1;");
        due("of one door", x.go(0), 1);
        due("of one door", x.go(1), 0);
        retell(x, "s1;");
        due("of a stuck one", x.go(0), 0);
        due("state", x.state(), 1);
        due("goings so far", x.count(7), 7);
    }

    private static void goingsPeople() {
        sentence("Promise 6: -1");
        TurnsMultiples x = new TurnsMultiples();
        due("go(0) of nobody", x.go(0), -1);
        retell(x, "pm1,1,1;");
        due("go(0) of one", x.go(0), 6);
        due("go(1) of one", x.go(1), -1);
        retell(x, IDLE.repeat(6));
        due("go(6) of seven", x.go(6), 0);
        due("go(7) of seven", x.go(7), -1);
        due("go(-1)", x.go(-1), -1);
        due("go(9): somebody is none", x.go(9), -1);
        due("goings so far: those refused are none", x.count(7), 2);
        refused(x, 5);
    }

    // ---- promises 8 and 9

    private static void stateLeastAndGreatest() {
        sentence("Promise 8: A STATE is told as a number");
        for (int colours = 2; colours <= 3; colours++) {
            for (int n = 1; n <= 12; n++) {
                TurnsMultiples x = housed(all(n, colours, 0));
                due("all at 0", x.state(), 0);
                retell(x, all(n, colours, colours - 1));
                due("all at the greatest", x.state(), power(colours, n) - 1);
            }
        }
    }

    private static void stateOfEachDoor() {
        sentence("Promise 8: DOOR i's way times COLOURS to the i less 1, all together");
        for (int colours = 2; colours <= 3; colours++) {
            TurnsMultiples x = housed("n12;k" + colours + ";");
            int all = 0;
            for (int door = 1; door <= 12; door++) {
                for (int way = 1; way < colours; way++) {
                    x.turn(door);
                    all += power(colours, door - 1);
                    due("door " + door + " at " + way, x.state(), all);
                }
            }
            due("the greatest", all, power(colours, 12) - 1);
        }
    }

    private static void wishedAtEachDoor() {
        sentence("Promise 9: Whether the WISH is so: 1, 0 (9: any)");
        for (int n = 1; n <= 12; n++) {
            String wish = "w" + "2".repeat(n) + ";";
            TurnsMultiples x = housed(all(n, 3, 2) + wish);
            due("so", x.wished(), 1);
            for (int door = 1; door <= n; door++) {
                x.turn(door);
                due("door " + door + " at 0", x.wished(), 0);
                x.turn(door);
                due("door " + door + " at 1", x.wished(), 0);
                x.turn(door);
                due("door " + door + " at 2", x.wished(), 1);
            }
            retell(x, "w" + "9".repeat(n) + ";");
            due("any", x.wished(), 1);
            retell(x, "w" + "9".repeat(n - 1) + "0;");
            due("the last alone", x.wished(), 0);
            x.turn(n);
            due("the last alone, so", x.wished(), 1);
        }
    }

    // ---- promise 10

    private static void wayStates() {
        sentence("Promise 10: -1 either");
        int[] numbers = {1, 2, 6, 11, 12};
        for (int n : numbers) {
            for (int colours = 2; colours <= 3; colours++) {
                TurnsMultiples x = housed("n" + n + ";k" + colours + ";");
                int states = power(colours, n);
                for (int what = 0; what <= 1; what++) {
                    due("the state below", x.way(-1, 1, what), -1);
                    due("the least state", x.way(0, 1, what), 0);
                    due("the next state", x.way(1, 1, what), 1);
                    due("the greatest state", x.way(states - 1, 1, 0), colours - 1);
                    due("the greatest state, the last by divisors", x.way(states - 1, n, 1), colours - 1);
                    due("the state above", x.way(states, 1, what), -1);
                    due("the least int", x.way(LEAST, 1, what), -1);
                    due("the greatest int", x.way(GREATEST, 1, what), -1);
                }
                refused(x, 8);
            }
        }
    }

    private static void wayNumbers() {
        sentence("Promise 10: a number (1 .. n): -1; -2");
        int[] numbers = {1, 2, 6, 11, 12};
        for (int n : numbers) {
            TurnsMultiples x = housed("n" + n + ";");
            int last = 1 << (n - 1);
            due("number 0", x.way(last, 0, 0), -1);
            due("number 1, the last alone stands open", x.way(last, 1, 0), n == 1 ? 1 : 0);
            due("number n, the last alone stands open", x.way(last, n, 0), 1);
            due("number n by divisors", x.way(last, n, 1), 1);
            due("number n + 1", x.way(last, n + 1, 0), -1);
            due("the least int", x.way(last, LEAST, 0), -1);
            due("the greatest int", x.way(last, GREATEST, 1), -1);
            int[] whats = {LEAST, -1, 2, GREATEST};
            for (int what : whats) {
                due("what " + what, x.way(last, n, what), -2);
            }
            refused(x, 4, 4);
        }
    }

    /** All states of few doors: the goings told bring it, and each of them goes fewer times than COLOURS. */
    private static void wayOfEachState() {
        sentence("THE WAY: how often a number goes (0 .. COLOURS less 1); from all at 0");
        for (int colours = 2; colours <= 3; colours++) {
            for (int n = 1; n <= 5; n++) {
                TurnsMultiples x = housed("n" + n + ";k" + colours + ";h" + "1".repeat(n) + ";");
                int calls = 20;
                for (int state = 0; state < power(colours, n); state++) {
                    calls += 2 * n;
                    if (calls > 500) {
                        x = housed("n" + n + ";k" + colours + ";");
                        calls = 20 + 2 * n;
                    }
                    due("by multiples", brought(x, n, colours, state, 0), state);
                    due("by divisors", brought(x, n, colours, state, 1), state);
                }
            }
        }
    }

    private static int brought(TurnsMultiples x, int doors, int colours, int state, int what) {
        int[] ways = new int[doors + 1];
        for (int number = 1; number <= doors; number++) {
            int times = x.way(state, number, what);
            due("times at least 0, less than colours", times >= 0 && times < colours ? 1 : 0, 1);
            for (int door = 1; door <= doors; door++) {
                if (what == 0 ? door % number == 0 : number % door == 0) {
                    ways[door] += times;
                }
            }
        }
        int brought = 0;
        for (int door = doors; door >= 1; door--) {
            brought = brought * colours + ways[door] % colours;
        }
        return brought;
    }

    private static void wayWithStuckOnes() {
        sentence("THE WAY: STUCK ones aside: none is STUCK in mind");
        TurnsMultiples x = housed("n3;k3;h111;s1;s2;s3;");
        int[] dues = {x.way(26, 1, 0), x.way(26, 2, 0), x.way(26, 3, 0), x.way(26, 1, 1), x.way(26, 2, 1), x.way(26, 3, 1)};
        due("all stuck", dues, new int[] {2, 0, 0, 1, 2, 2});
        due("state", x.state(), 13);
    }

    // ---- promises 11 to 16

    private static void canNoneAndAll() {
        sentence("Promise 11: how many such rows bring the WISH");
        due("nobody, so now", new TurnsMultiples().can(), 1);
        due("nobody, not so", housed("w999991;").can(), 0);
        for (int colours = 2; colours <= 3; colours++) {
            for (int people = 1; people <= 7; people++) {
                TurnsMultiples x = housed(all(1, colours, 1) + IDLE.repeat(Math.min(people, 6)));
                if (people == 7) {
                    retell(x, IDLE);
                }
                due("any wish", x.can(), power(colours, people));
                retell(x, "w1;");
                due("so now", x.can(), power(colours, people));
                retell(x, "w0;");
                due("not to be brought", x.can(), 0);
            }
        }
    }

    private static void canNotMoreThanColours() {
        sentence("ROWS of PEOPLE: each goes 0 .. COLOURS less 1 times, from now");
        for (int colours = 2; colours <= 3; colours++) {
            TurnsMultiples x = housed("n1;k" + colours + ";pm1,1,1;");
            for (int way = 0; way < colours; way++) {
                retell(x, "w" + way + ";");
                due("just one row", x.can(), 1);
                due("its goings", x.fewest(), way);
            }
            x.turn(1);
            due("the greatest, from 1", x.fewest(), colours - 2);
            retell(x, "w0;");
            due("0, from 1", x.fewest(), colours - 1);
        }
    }

    private static void fewestLeastAndMost() {
        sentence("Promise 12: FEWEST; -9");
        due("nobody, so now", new TurnsMultiples().fewest(), 0);
        due("nobody, not so", housed("w999991;").fewest(), -9);
        for (int colours = 2; colours <= 3; colours++) {
            TurnsMultiples x = housed("n7;", ones(1, 7, 1), "k" + colours + ";");
            String most = String.valueOf(colours - 1).repeat(7);
            retell(x, "w" + most + ";");
            due("the most", x.fewest(), 7 * (colours - 1));
            x.go(6);
            due("one fewer", x.fewest(), 7 * (colours - 1) - 1);
            retell(x, "h" + most + ";");
            due("so now", x.fewest(), 0);
            retell(x, "n8;w00000001;");
            due("the eighth", x.fewest(), -9);
            retell(x, "w00000000;");
            due("but at 0", x.fewest(), 0);
            refused(x);
        }
    }

    private static void cheapestLeastAndMost() {
        sentence("Promise 13: CHEAPEST; -9");
        due("nobody, so now", new TurnsMultiples().cheapest(), 0);
        due("nobody, not so", housed("w999991;").cheapest(), -9);
        for (int colours = 2; colours <= 3; colours++) {
            TurnsMultiples x = housed("n7;", ones(1, 7, 9), "k" + colours + ";");
            String most = String.valueOf(colours - 1).repeat(7);
            retell(x, "w" + most + ";");
            due("the most", x.cheapest(), 63 * (colours - 1));
            x.go(0);
            due("one fewer", x.cheapest(), 63 * (colours - 1) - 9);
            retell(x, "h" + most + ";");
            due("so now", x.cheapest(), 0);
            retell(x, "n8;w00000001;");
            due("the eighth", x.cheapest(), -9);
            refused(x);
        }
        due("of cost 0", housed("n1;pm1,1,9;pm1,1,0;w1;").cheapest(), 0);
        due("of cost 1", housed("n1;pm1,1,9;pm1,1,1;w1;").cheapest(), 1);
        due("more goings, but less cost", housed("n2;pu1,2,9;pu1,1,4;pu2,2,4;w11;").cheapest(), 8);
        due("as much", housed("n2;pu1,2,8;pu1,1,4;pu2,2,4;w11;").cheapest(), 8);
        due("fewer goings, less cost", housed("n2;pu1,2,7;pu1,1,4;pu2,2,4;w11;").cheapest(), 7);
    }

    private static int[] hows(TurnsMultiples x, int people) {
        int[] hows = new int[people];
        for (int person = 0; person < people; person++) {
            hows[person] = x.how(person);
        }
        return hows;
    }

    private static void howFirstOfSeveral() {
        sentence("HOW: the first of these with fewest GOINGS (by PEOPLE one after the other, fewer times first)");
        TurnsMultiples x = housed("n1;", "pm1,1,1;".repeat(7), "w1;");
        due("of seven alike the last", hows(x, 7), new int[] {0, 0, 0, 0, 0, 0, 1});
        retell(x, "k3;w2;");
        due("twice the last", hows(x, 7), new int[] {0, 0, 0, 0, 0, 0, 2});
        retell(x, "w0;");
        due("so now", hows(x, 7), new int[7]);
        TurnsMultiples y = housed("n2;k3;pu1,1,0;pu2,2,0;pu1,2,0;w22;");
        due("fewest ahead of first", hows(y, 3), new int[] {0, 0, 2});
        retell(y, "w21;");
        due("each once, some", hows(y, 3), new int[] {1, 0, 1});
        TurnsMultiples z = housed("n2;pu1,1,0;pu1,2,0;pu2,2,0;pm1,1,0;w10;");
        due("one alone", hows(z, 4), new int[] {1, 0, 0, 0});
        retell(z, "w11;");
        due("the later of two", hows(z, 4), new int[] {0, 0, 0, 1});
        TurnsMultiples most = housed("n7;", ones(1, 7, 0), "k3;w2222222;");
        due("the most", hows(most, 7), new int[] {2, 2, 2, 2, 2, 2, 2});
    }

    private static void howNone() {
        sentence("Promise 14: HOW; -9 there is none. -1");
        TurnsMultiples x = housed("n2;pu1,1,0;w01;");
        due("none", x.how(0), -9);
        due("none, no such person", x.how(1), -1);
        due("none, no such person", x.how(-1), -1);
        refused(x, 2);
        x.turn(2);
        due("there is one", x.how(0), 0);
        due("no such person", x.how(1), -1);
        refused(x, 3);
        TurnsMultiples nobody = new TurnsMultiples();
        due("nobody", nobody.how(0), -1);
        refused(nobody, 1);
    }

    private static void nothingLeastAndMost() {
        sentence("Promise 15: how many rows change nothing");
        due("nobody", new TurnsMultiples().nothing(), 1);
        for (int colours = 2; colours <= 3; colours++) {
            for (int free = 0; free <= 7; free++) {
                TurnsMultiples x = housed("n7;k" + colours + ";h1111111;", ones(1, 7, 0));
                for (int door = 1; door <= free; door++) {
                    retell(x, "s" + door + ";");
                }
                due("rows, where " + free + " turn none", x.nothing(), power(colours, free));
                due("states then", x.states(), power(colours, 7 - free));
            }
        }
        TurnsMultiples two = housed("n1;pm1,1,0;pm1,1,0;");
        due("both or none", two.nothing(), 2);
        retell(two, "k3;");
        due("none, or one once and one twice", two.nothing(), 3);
        TurnsMultiples twice = housed("n1;pm1,1,0;h1;");
        due("not twice in two colours", twice.nothing(), 1);
    }

    private static void statesLeastAndMost() {
        sentence("Promise 16: how many STATES there are to be come to by any");
        due("nobody", new TurnsMultiples().states(), 1);
        for (int colours = 2; colours <= 3; colours++) {
            for (int doors = 1; doors <= 12; doors++) {
                TurnsMultiples x = housed(all(doors, colours, 1), ones(1, 7, 0));
                due("each a door of his own, of " + doors, x.states(), power(colours, Math.min(doors, 7)));
            }
            TurnsMultiples y = housed(all(1, colours, 1), "pm1,1,0;".repeat(7));
            due("seven, one door", y.states(), colours);
            retell(y, "s1;");
            due("one door, stuck", y.states(), 1);
        }
    }

    // ---- promise 17

    private static void keysJustEnough() {
        sentence("KEYS: the fewest PEOPLE with whom all STATES can be come to (COLOURS to the DOORS); -9");
        due("nobody: how many", new TurnsMultiples().keys(0), -9);
        due("nobody: which", new TurnsMultiples().keys(1), -9);
        for (int colours = 2; colours <= 3; colours++) {
            for (int doors = 1; doors <= 8; doors++) {
                TurnsMultiples x = housed("n" + doors + ";k" + colours + ";");
                for (int people = 1; people <= Math.min(doors, 7); people++) {
                    retell(x, ones(people, people, 0));
                    boolean enough = people == doors;
                    due(people + " for " + doors + ": how many", x.keys(0), enough ? doors : -9);
                    due(people + " for " + doors + ": which", x.keys(1), enough ? (1 << doors) - 1 : -9);
                }
                refused(x);
            }
        }
        TurnsMultiples x = housed("n1;pm1,1,0;");
        int[] answers = {x.keys(-1), x.keys(0), x.keys(1), x.keys(2)};
        due("keys(-1 .. 2)", answers, new int[] {-2, 1, 1, -2});
        refused(x, 0, 2);
    }

    private static void keysLeastOfSeveral() {
        sentence("KEYS: which (bits, of several the least)");
        TurnsMultiples x = housed("n1;" + IDLE + "pm1,1,0;pm1,1,0;");
        due("the first that can", x.keys(1), 2);
        due("one alone", x.keys(0), 1);
        TurnsMultiples y = housed("n2;pu1,1,0;pu1,1,0;pu2,2,0;pu1,2,0;");
        due("two: the first and the third", y.keys(1), 1 + 4);
        due("how many", y.keys(0), 2);
        TurnsMultiples last = housed("n2;" + IDLE.repeat(4), "pu1,2,0;pu2,2,0;pu1,1,0;");
        due("the fifth and the sixth", last.keys(1), 16 + 32);
        TurnsMultiples six = housed("n6;" + ones(2, 6, 0), "pm1,1,0;pu1,1,0;");
        due("six of seven", six.keys(0), 6);
        due("without the last", six.keys(1), 63);
        TurnsMultiples others = housed("n6;pu2,2,0;" + ones(2, 6, 0), "pm1,1,0;");
        due("of two alike the first", others.keys(1), 127 - 2);
    }

    private static void keysOfManyDoors() {
        sentence("KEYS: all STATES can be come to, modulo COLOURS");
        TurnsMultiples x = housed("n3;k3;pd3,4,1;pd4,1,1;pu2,4,1;");
        due("doors 1 3, 1 2, 2 3, three colours: how many", x.keys(0), 3);
        due("doors 1 3, 1 2, 2 3, three colours: which", x.keys(1), 7);
        retell(x, "k2;");
        due("two colours: the third is as both others", x.keys(0), -9);
        due("two colours: which", x.keys(1), -9);
        retell(x, "pu1,3,0;");
        due("two colours, with one who turns all", x.keys(1), 1 + 2 + 8);
        retell(x, "k3;");
        due("three colours, with one who turns all", x.keys(1), 7);
        TurnsMultiples y = housed("n3;k3;pu1,2,0;pu3,3,0;pu1,3,0;pu2,3,0;");
        due("the third is as the first two", y.keys(1), 1 + 2 + 8);
        retell(y, "k2;");
        due("in two colours too", y.keys(1), 1 + 2 + 8);
        TurnsMultiples odd = housed("n4;k3;pu1,2,0;pu3,4,0;px1,2,0;px3,1,0;", "pu2,3,0;");
        due("doors 1 2, 3 4, 1 3, 1 2 4, 2 3", odd.keys(1), 15);
        retell(odd, "k2;");
        due("in two colours", odd.keys(1), 15);
        due("doors 1 2, 1 3, 2 3", housed("n3;k3;pu1,2,0;pd3,1,0;pu2,3,0;").keys(1), 7);
        due("doors 1 2, 1 3, 3 4, 2 4", housed("n4;k3;pu1,2,0;pd3,1,0;pu3,4,0;pm2,1,0;").keys(1), -9);
        due("one for two doors", housed("n2;pm1,1,0;").keys(0), -9);
        due("two alike for two doors", housed("n2;k3;px1,3,1;pd2,1,1;").keys(0), -9);
        TurnsMultiples all = housed("n7;k3;", "pm1,1,0;pm2,2,0;pm3,3,0;pm4,4,0;pm5,5,0;pm6,6,0;pm7,7,0;");
        due("the numbers' multiples", all.keys(1), 127);
        TurnsMultiples divisors = housed("n7;k3;", "pd1,1,0;pd2,2,0;pd3,3,0;pd4,4,0;pd5,5,0;pd6,6,0;pd7,7,0;");
        due("the numbers' divisors", divisors.keys(1), 127);
        TurnsMultiples upward = housed("n7;", "pu1,7,0;pu2,7,0;pu3,7,0;pu4,7,0;pu5,7,0;pu6,7,0;pu7,7,0;");
        due("from each upward", upward.keys(1), 127);
    }

    private static void keysNoStuckOnes() {
        sentence("KEYS: no STUCK ones");
        TurnsMultiples x = housed("n2;pu1,1,0;pu2,2,0;pm1,1,0;");
        due("none stuck", x.keys(1), 3);
        retell(x, "s2;");
        due("the last stuck: how many", x.keys(0), -9);
        due("the last stuck: which", x.keys(1), -9);
        retell(x, "s1;");
        due("all stuck", x.keys(1), -9);
        retell(x, "s2;");
        due("the first stuck", x.keys(0), -9);
        retell(x, "s1;");
        due("none stuck any more", x.keys(1), 3);
    }

    // ---- promises 18 and 19

    private static void beenLeastAndMost() {
        sentence("BEEN: how many rows, from all at 0, make it stand as now");
        TurnsMultiples nobody = new TurnsMultiples();
        due("nobody, all at 0", nobody.been(), 1);
        nobody.turn(6);
        due("nobody, one not at 0", nobody.been(), 0);
        for (int colours = 2; colours <= 3; colours++) {
            TurnsMultiples x = housed("n1;k" + colours + ";", IDLE.repeat(7));
            due("all rows", x.been(), power(colours, 7));
            x.turn(1);
            due("no row", x.been(), 0);
            TurnsMultiples y = housed("n1;k" + colours + ";pm1,1,1;");
            for (int i = 0; i < colours; i++) {
                due("just one", y.been(), 1);
                y.go(0);
            }
            TurnsMultiples most = housed("n7;", ones(1, 7, 0), "k" + colours + ";");
            retell(most, "h" + String.valueOf(colours - 1).repeat(7) + ";");
            due("all go as often as they can", most.been(), 1);
        }
    }

    private static void sureNoneAndAll() {
        sentence("SURE: PEOPLE (bits) who go at least once in all of these (0 none)");
        TurnsMultiples nobody = new TurnsMultiples();
        due("nobody, all at 0", nobody.sure(), 0);
        nobody.turn(1);
        due("nobody, not at 0", nobody.sure(), 0);
        for (int colours = 2; colours <= 3; colours++) {
            TurnsMultiples x = housed("n8;", ones(1, 7, 0), "k" + colours + ";");
            due("all at 0", x.sure(), 0);
            for (int person = 0; person < 7; person++) {
                x.go(person);
                due("those who have gone", x.sure(), (2 << person) - 1);
            }
            x.turn(8);
            due("no row", x.sure(), 0);
            retell(x, "h10000000;");
            due("the first", x.sure(), 1);
            retell(x, "h00000010;");
            due("the last", x.sure(), 64);
        }
        TurnsMultiples both = housed("n1;pm1,1,0;pm1,1,0;h1;");
        due("one of two, none of them surely", both.sure(), 0);
        retell(both, "h0;");
        due("both or none", both.sure(), 0);
    }

    // ---- promises 20 to 22

    private static void forEverEnds() {
        sentence("Promise 20: FOR EVER (1 .. 1000000000). -4 below 1; -6 1000000000");
        TurnsMultiples x = new TurnsMultiples();
        int[] far = {LEAST, -1, 0, 1, 2, 3, 4, 999950883, 999950884, 999950885, 999999999, 1000000000, 1000000001, GREATEST};
        int[] two = {-4, -4, -4, 1, 0, 0, 1, 0, 1, 0, 0, 0, -6, -6};
        for (int i = 0; i < far.length; i++) {
            due("forEver(" + far[i] + "), two colours", x.forEver(far[i]), two[i]);
        }
        refused(x, 0, 0, 0, 3, 0, 2);
        retell(x, "k3;");
        // 1000000000 is 2 to the 9 by 5 to the 9: 100 divisors; 999999937 is a prime; 729 is 3 to the 6: 7;
        // 536870912 is 2 to the 29: 30; 735134400 has 1344, the most; 31607 squared, of a prime, has 3.
        int[] three = {1, 2, 4, 729, 536870912, 735134400, 999002449, 999999937, 1000000000};
        int[] dues = {1, 2, 0, 1, 0, 0, 0, 2, 1};
        for (int i = 0; i < three.length; i++) {
            due("forEver(" + three[i] + "), three colours", x.forEver(three[i]), dues[i]);
        }
    }

    private static int divisorsOf(int number) {
        int divisors = 0;
        for (int i = 1; i <= number; i++) {
            divisors += number % i == 0 ? 1 : 0;
        }
        return divisors;
    }

    private static void nthEnds() {
        sentence("Promise 21: NTH: the k-th (1 .. 40): -4; -6 40");
        TurnsMultiples x = new TurnsMultiples();
        int[] ks = {LEAST, -1, 0, 1, 2, 39, 40, 41, GREATEST};
        int[] dues = {-4, -4, -4, 1, 4, 1521, 1600, -6, -6};
        for (int i = 0; i < ks.length; i++) {
            due("nth(" + ks[i] + ")", x.nth(ks[i]), dues[i]);
        }
        refused(x, 0, 0, 0, 3, 0, 2);
        retell(x, "k3;");
        int found = 0;
        for (int far = 1; found < 40; far++) {
            if (divisorsOf(far) % 3 != 0) {
                found++;
                due("nth(" + found + "), three colours", x.nth(found), far);
            }
        }
    }

    private static void openEnds() {
        sentence("Promise 22: OPEN: how many of DOORS 1 .. N (2000 at most): -4; -6 2000");
        TurnsMultiples x = new TurnsMultiples();
        int[] ns = {LEAST, -1, 0, 1, 2, 3, 4, 1935, 1936, 1999, 2000, 2001, GREATEST};
        int[] dues = {-4, -4, -4, 1, 1, 1, 2, 43, 44, 44, 44, -6, -6};
        for (int i = 0; i < ns.length; i++) {
            due("open(" + ns[i] + ")", x.open(ns[i]), dues[i]);
        }
        refused(x, 0, 0, 0, 3, 0, 2);
        retell(x, "k3;");
        int open = 0;
        for (int far = 1; far <= 2000; far++) {
            open += divisorsOf(far) % 3 != 0 ? 1 : 0;
            if (far <= 12 || far >= 1990) {
                due("open(" + far + "), three colours", x.open(far), open);
            }
        }
    }

    // ---- promises 23 to 28: the log

    private static void logPeople() {
        sentence("Promise 23: A LOG: PEOPLE (0 .. 9; 9: somebody, unknown): -1 nobody such (9 there is)");
        for (int people = 0; people <= 7; people++) {
            TurnsMultiples x = housed("n12;", "n12;" + ones(1, people, 0));
            for (int person = -1; person <= 10; person++) {
                boolean there = person >= 0 && person < people || person == 9;
                x.clear();
                due("log(" + person + ") of " + people, x.log(person), there ? 1 : -1);
                due("in the log", x.count(5), there ? 1 : 0);
                due("run: -3 if unknown", x.run(1), person == 9 ? -3 : there && person == 0 ? 1 : 0);
            }
            due("log(least)", x.log(LEAST), -1);
            due("log(greatest)", x.log(GREATEST), -1);
            refused(x, 13 - people, 0, 1);
        }
    }

    private static void logRoom() {
        sentence("Promise 23: how many; -6 10");
        TurnsMultiples x = housed("n1;pm1,1,1;pm1,1,1;");
        for (int i = 1; i <= 10; i++) {
            due("the log's " + i, x.log(i % 2), i);
        }
        due("the eleventh", x.log(0), -6);
        due("the eleventh, unknown", x.log(9), -6);
        due("the eleventh, nobody", x.log(2), -1);
        due("in the log", x.count(5), 10);
        refused(x, 1, 0, 0, 0, 0, 2);
        due("ten are no more", x.clear(), 10);
        due("room again", x.log(9), 1);
        TurnsMultiples unknown = new TurnsMultiples();
        for (int i = 1; i <= 10; i++) {
            due("the unknown " + i, unknown.log(9), i);
        }
        due("the eleventh", unknown.log(9), -6);
    }

    private static int[] repeat(int person, int many) {
        int[] all = new int[many];
        Arrays.fill(all, person);
        return all;
    }

    private static void orderEmptyAndFull() {
        sentence("Promise 24: ORDER: behind how many of them it stands at 0 at least (9 ones turn nothing)");
        for (int many = 0; many <= 10; many++) {
            TurnsMultiples x = housed("n2;k3;pu1,1,0;");
            logs(x, repeat(9, many));
            due("at 0, " + many + " unknown", x.order(1), many);
            x.turn(1);
            due("at 1, " + many + " unknown", x.order(1), 0);
            x.turn(1);
            due("at 2, " + many + " unknown", x.order(1), 0);
            x.clear();
            logs(x, repeat(0, many));
            due("at 0, " + many + " who turn another", x.order(2), many);
            x.turn(2);
            due("at 1, " + many + " who turn another", x.order(2), 0);
        }
    }

    private static void orderWraps() {
        sentence("Promise 24: ORDER (from now), modulo COLOURS");
        for (int colours = 2; colours <= 3; colours++) {
            for (int way = 0; way < colours; way++) {
                TurnsMultiples x = housed("n1;k" + colours + ";pm1,1,0;h" + way + ";");
                int shut = 0;
                for (int many = 1; many <= 10; many++) {
                    logs(x, 0);
                    shut += (way + many) % colours == 0 ? 1 : 0;
                    due("from " + way + ", turned " + many + " times", x.order(1), shut);
                }
            }
        }
    }

    private static void orderOfOthers() {
        sentence("Promise 24: ORDER: by the best order of these GOINGS");
        TurnsMultiples x = housed("n2;k3;pu1,1,0;pu2,2,0;");
        logs(x, 9, 9, 9, 1, 1, 1, 9, 9, 9, 0);
        due("one turns it ahead of nine others", x.order(1), 0);
        due("three turn it, others while it is not at 0", x.order(2), 1);
        x.turn(1);
        due("from 1 to 2", x.order(1), 0);
        x.turn(1);
        due("from 2 to 0: nine others ahead", x.order(1), 1);
        x.clear();
        logs(x, 0, 9);
        due("from 2 to 0, the log has the one who turns it ahead", x.order(1), 1);
        x.turn(1);
        due("from 0 to 1, one other behind", x.order(1), 0);
        x.clear();
        logs(x, 9, 0, 0, 0);
        due("round to 0: the other goes between", x.order(1), 1);
    }

    private static void fillsUnknown() {
        sentence("Promise 25: FILLS: the unknown ones (3 at most): -6 more than 3 unknown");
        TurnsMultiples x = housed("n7;", ones(1, 7, 0));
        for (int unknown = 0; unknown <= 3; unknown++) {
            due("ways for " + unknown + " unknown, all at 0", x.fills(), unknown == 0 ? 1 : unknown == 2 ? 7 : 0);
            logs(x, 9);
        }
        due("four unknown", x.fills(), -6);
        logs(x, 0, 1, 2, 3, 4);
        due("four unknown, five known", x.fills(), -6);
        logs(x, 9);
        due("five unknown, and no room", x.fills(), -6);
        refused(x, 0, 0, 0, 0, 0, 3);
        x.clear();
        logs(x, 6, 6, 5, 9, 9, 0, 1, 2, 9, 3);
        retell(x, "h1111011;");
        due("ten, three unknown: the seventh and some other twice", x.fills(), 3 * 6 + 1);
        retell(x, "h1111010;");
        due("ten, three unknown: an even number of doors more", x.fills(), 0);
        x.clear();
        logs(x, 9, 9, 9);
        retell(x, "h1010001;");
        due("three unknown, in any order", x.fills(), 6);
        retell(x, "h1000000;");
        due("three unknown, the first, and some other twice", x.fills(), 3 * 6 + 1);
        TurnsMultiples idle = housed("n1;", IDLE.repeat(7));
        logs(idle, 9, 9, 9);
        due("all ways", idle.fills(), 343);
        idle.turn(1);
        due("from all at 0", idle.fills(), 0);
    }

    private static void fillsOfNobody() {
        sentence("Promise 25: FILLS: the unknown ones can have been PEOPLE");
        TurnsMultiples x = new TurnsMultiples();
        due("nobody, no log", x.fills(), 1);
        logs(x, 9);
        due("nobody can have been it", x.fills(), 0);
        logs(x, 9, 9);
        due("nor three of them", x.fills(), 0);
        logs(x, 9);
        due("four", x.fills(), -6);
        TurnsMultiples y = housed("n1;k3;pm1,1,0;");
        logs(y, 9, 9);
        due("one, but from all at 0 it would stand at 2", y.fills(), 0);
        retell(y, "h2;");
        due("so it does", y.fills(), 1);
        logs(y, 9);
        due("three", y.fills(), 0);
        retell(y, "h0;");
        due("three, round to 0", y.fills(), 1);
    }

    private static void runEmptyAndFull() {
        sentence("Promise 26: RUN: how a DOOR stands behind the LOG from now");
        for (int colours = 2; colours <= 3; colours++) {
            TurnsMultiples x = housed("n12;k" + colours + ";pm1,1,0;pu1,11,0;");
            for (int many = 0; many <= 10; many++) {
                due("the first behind " + many, x.run(1), many % colours);
                due("the last behind " + many, x.run(12), (many + 1) / 2 % colours);
                if (many < 10) {
                    logs(x, many % 2);
                }
            }
            due("how it stands", x.state(), 0);
            x.turn(12);
            due("from now", x.run(12), 6 % colours);
            x.clear();
            due("no log", x.run(12), 1);
        }
    }

    private static void judgeFirstAndLast() {
        sentence("Promise 27: JUDGED: the first GOING by which some DOOR comes to stand at 0 that did not; -9");
        TurnsMultiples x = housed("n12;pm1,1,0;pu12,12,0;" + IDLE);
        due("no log", x.judge(), -9);
        logs(x, 2, 2, 2, 2, 2, 2, 2, 2, 1);
        due("nine, none to 0", x.judge(), -9);
        logs(x, 1);
        due("the tenth and last", x.judge(), 9);
        x.turn(12);
        due("the ninth, from now", x.judge(), 8);
        x.turn(12);
        x.clear();
        logs(x, 0, 0);
        due("the second", x.judge(), 1);
        x.turn(1);
        due("the first: the first door alone", x.judge(), 0);
        due("the log stays", x.count(5), 2);
        x.clear();
        x.turn(1);
        x.turn(12);
        logs(x, 1);
        due("the first: the last door alone", x.judge(), 0);
        due("nothing is turned", x.state(), 2048);
        refused(x);
    }

    private static void judgeOnlyWhatComesToZero() {
        sentence("JUDGED: comes to stand at 0 that did not (from now)");
        TurnsMultiples x = housed("n2;k3;pm1,1,0;" + IDLE);
        logs(x, 1, 1);
        due("who turns none, all at 0", x.judge(), -9);
        x.clear();
        logs(x, 0, 0);
        due("from 0 to 1 to 2", x.judge(), -9);
        logs(x, 0);
        due("from 2 to 0", x.judge(), 2);
        retell(x, "h10;");
        due("from 1, one going fewer", x.judge(), 1);
        retell(x, "h02;");
        due("from 2 at once", x.judge(), 0);
        retell(x, "s2;");
        due("stuck at 2", x.judge(), 2);
        retell(x, "s1;");
        due("all stuck", x.judge(), -9);
    }

    private static void clearEmptyAndFull() {
        sentence("Promise 28: The LOG has none: how many it had");
        TurnsMultiples x = housed("n1;pm1,1,0;");
        due("none", x.clear(), 0);
        logs(x, 9);
        due("one", x.clear(), 1);
        logs(x, 0, 9, 9, 9, 9, 0, 0, 0, 0, 9);
        due("fills, ahead of it", x.fills(), -6);
        due("ten", x.clear(), 10);
        due("in the log", x.count(5), 0);
        due("fills", x.fills(), 1);
        due("run", x.run(1), 0);
        due("judge", x.judge(), -9);
        due("order", x.order(1), 0);
        due("none again", x.clear(), 0);
        due("the first again", x.log(0), 1);
    }

    // ---- promise 29

    private static void matchOfNobody() {
        sentence("MATCH: else, no PEOPLE: neither");
        TurnsMultiples x = new TurnsMultiples();
        due("so now: who is to go has lost", x.match(), 0);
        retell(x, "w999991;");
        due("not so, no people", x.match(), 2);
        x.turn(6);
        due("so now", x.match(), 0);
        retell(x, "pu6,6,0;");
        due("so now, with people", x.match(), 0);
        x.turn(6);
        due("not so, with people", x.match(), 1);
    }

    private static void matchSoNow() {
        sentence("MATCH: it is so now: who is to go has lost");
        for (int people = 1; people <= 7; people++) {
            TurnsMultiples x = housed("n7;", ones(1, people, 0), "w1111111;h1111111;");
            due("so now", x.match(), 0);
            x.turn(people);
            due("one going away", x.match(), 1);
        }
        TurnsMultiples idle = housed("n1;" + IDLE + "w0;");
        due("so now, and who goes turns none", idle.match(), 0);
        idle.turn(1);
        due("not so, and who goes turns none", idle.match(), 2);
    }

    private static void matchWonLostNeither() {
        sentence("MATCH: 1 who is to go wins, 0 loses, 2 neither");
        TurnsMultiples line = housed("n1;k3;pm1,1,0;w0;h2;");
        due("one going", line.match(), 1);
        retell(line, "h1;");
        due("two goings", line.match(), 0);
        retell(line, "pm1,1,0;");
        due("two alike", line.match(), 0);
        retell(line, IDLE);
        due("who is about to lose lets it be", line.match(), 2);
        retell(line, "h2;");
        due("who wins does not", line.match(), 1);
        TurnsMultiples two = housed("n2;pu1,1,0;pu2,2,0;w11;");
        due("each must bring it near", two.match(), 0);
        retell(two, "pu1,2,0;");
        due("or both at once", two.match(), 1);
        TurnsMultiples far = housed("n2;pu1,1,0;w19;h01;");
        due("any of the other", far.match(), 1);
        retell(far, "w01;h10;");
        due("never", far.match(), 2);
        TurnsMultiples most = housed("n7;", ones(1, 7, 0), "w1111111;h0000011;");
        due("of seven, far off: one can always turn back", most.match(), 2);
        retell(most, "h0011111;");
        due("of seven, two off: another can be turned back", most.match(), 2);
        retell(most, "h0111111;");
        due("of seven, one off", most.match(), 1);
    }

    private static void matchRoundToZero() {
        sentence("MATCH: each GOING one of PEOPLE, as often as they will, modulo COLOURS");
        TurnsMultiples x = housed("n2;k3;px2,1,0;pe3,1,0;w20;");
        due("doors 1, and 1 and 2: one goes a third time", x.match(), 1);
        TurnsMultiples y = housed("n2;k3;pu1,1,0;pu2,2,0;w11;");
        // From (0, 0) and (2, 2) each going leads to where the other wins.
        int[] dues = {0, 1, 1, 1, 0, 1, 1, 1, 0};
        for (int state = 0; state < 9; state++) {
            retell(y, "h" + state % 3 + state / 3 + ";");
            due("from state " + state, y.state(), state);
            due("match from state " + state, y.match(), dues[state]);
        }
    }

    // ---- promise 30

    /** Draws as the document tells them, with numbers that have no end. */
    private static int[] draws(int n, int seed, int people) {
        int[] draws = new int[n];
        BigInteger z = BigInteger.valueOf(seed);
        BigInteger half = BigInteger.ONE.shiftLeft(31);
        for (int i = 0; i < n; i++) {
            z = z.multiply(BigInteger.valueOf(1664525)).add(BigInteger.valueOf(1013904223));
            draws[i] = z.mod(half).shiftRight(8).mod(BigInteger.valueOf(people)).intValueExact();
        }
        return draws;
    }

    private static int standing(int[] draws, int people) {
        int[] ways = new int[people];
        for (int person : draws) {
            ways[person]++;
        }
        int state = 0;
        for (int person = people - 1; person >= 0; person--) {
            state = state * 3 + ways[person] % 3;
        }
        return state;
    }

    private static void seedsNoneAndMost() {
        sentence("SEEDS with a seed z: n GOINGS (0 .. 99) by DRAWS below PEOPLE: -4; -6 99");
        for (int people = 1; people <= 7; people++) {
            TurnsMultiples x = housed("n" + people + ";k3;", ones(1, people, 0));
            int[] numbers = {0, 1, 2, 98, 99};
            for (int n : numbers) {
                due("seeds(" + n + ", 12345) of " + people, x.seeds(n, 12345), standing(draws(n, 12345, people), people));
            }
            int[] outside = {LEAST, -1, 100, GREATEST};
            for (int n : outside) {
                due("seeds(" + n + ", 12345) of " + people, x.seeds(n, 12345), n < 0 ? -4 : -6);
            }
            x.turn(people);
            due("none, from now", x.seeds(0, 0), power(3, people - 1));
            due("it is asked alone", x.state(), power(3, people - 1));
            refused(x, 0, 0, 0, 2, 0, 2);
        }
    }

    private static void seedsWrapAround() {
        sentence("A DRAW below m: z becomes z times 1664525 and 1013904223 (an int)");
        int[] seeds = {0, 1, -1, 2, 255, 256, 65535, 65536, GREATEST - 1, GREATEST, LEAST, LEAST + 1, 0x55555555};
        for (int people = 1; people <= 7; people++) {
            TurnsMultiples x = housed("n" + people + ";k3;", ones(1, people, 0));
            for (int seed : seeds) {
                due("seeds(1, " + seed + ") of " + people, x.seeds(1, seed), standing(draws(1, seed, people), people));
                due("seeds(60, " + seed + ") of " + people, x.seeds(60, seed), standing(draws(60, seed, people), people));
            }
        }
    }

    /** Seeds behind which z is a told number: so it is seen what a draw makes of it. */
    private static void seedsCut() {
        sentence("(z without its sign's bit by 256, cut) modulo m");
        BigInteger whole = BigInteger.ONE.shiftLeft(32);
        BigInteger back = BigInteger.valueOf(1664525).modInverse(whole);
        int[] becomes = {0, 1, 255, 256, 511, 512, 6 * 256 + 255, 7 * 256, GREATEST, LEAST, LEAST + 255, LEAST + 256, -1};
        int[] dues = {0, 0, 0, 1, 1, 2, 6, 0, 8388607 % 7, 0, 0, 1, 8388607 % 7};
        TurnsMultiples x = housed("n7;", ones(1, 7, 0));
        for (int i = 0; i < becomes.length; i++) {
            BigInteger z = BigInteger.valueOf(becomes[i]).subtract(BigInteger.valueOf(1013904223)).multiply(back).mod(whole);
            due("where z becomes " + becomes[i], x.seeds(1, z.intValue()), 1 << dues[i]);
        }
    }

    // ---- promises 31 and 32

    private static void imageOfNobodyAndOfSeven() {
        sentence("Promises 31, 32: THE IMAGE is taken, ON from it: how many PEOPLE. -3 there is none");
        TurnsMultiples x = new TurnsMultiples();
        due("on, none", x.on(), -3);
        due("image of nobody", x.image(), 0);
        retell(x, ones(1, 7, 0));
        due("on from it", x.on(), 0);
        due("people", x.count(2), 0);
        due("the first", x.person(0, 0), -1);
        for (int people = 1; people <= 7; people++) {
            TurnsMultiples y = housed("n12;", ones(1, people, 0));
            due("on, none", y.on(), -3);
            due("image", y.image(), people);
            if (people < 7) {
                retell(y, IDLE);
            }
            due("on from it", y.on(), people);
            due("people", y.count(2), people);
            due("the last", y.person(people - 1, 1), people);
            due("one more", y.person(people, 1), -1);
        }
    }

    private static void imageIsTheLast() {
        sentence("Promise 31: THE IMAGE is taken");
        TurnsMultiples x = housed("n1;k3;pm1,1,0;");
        due("image", x.image(), 1);
        x.go(0);
        due("image once more", x.image(), 1);
        x.go(0);
        due("on", x.on(), 1);
        due("state of the last image", x.state(), 1);
        x.go(0);
        x.go(0);
        due("on once more", x.on(), 1);
        due("the image is still there", x.state(), 1);
        due("goings so far", x.count(7), 1);
        due("image of what was gone on from", x.image(), 1);
        x.go(0);
        x.on();
        due("the same", x.state(), 1);
    }

    private static void onHasAllAsThen() {
        sentence("THE IMAGE: the HOUSE, how it stands, GOINGS so far, the LOG; ON from it all is as then");
        TurnsMultiples x = housed("n12;k3;h012012012012;s1;s12;w901201201209;pu1,11,3;pm12,1,9;");
        x.go(0);
        logs(x, 0, 1, 1, 0, 9, 9, 9);
        int fills = x.fills();
        due("image", x.image(), 2);
        retell(x, "n1;k2;pm1,1,1;w1;s1;");
        x.go(2);
        x.clear();
        logs(x, 2);
        due("on", x.on(), 2);
        int[] counts = {12, 3, 2, 8, 2, 7, 0, 1};
        for (int what = 0; what < counts.length; what++) {
            due("count(" + what + ")", x.count(what), counts[what]);
        }
        int[] ways = {0, 2, 0, 1, 2, 0, 1, 2, 0, 1, 2, 2};
        int[] wishes = {9, 0, 1, 2, 0, 1, 2, 0, 1, 2, 0, 9};
        for (int door = 1; door <= 12; door++) {
            due("way of " + door, x.door(door, 0), ways[door - 1]);
            due("wish of " + door, x.door(door, 1), wishes[door - 1]);
            due("stuck " + door, x.door(door, 2), door == 1 || door == 12 ? 1 : 0);
        }
        int[] people = {x.person(0, 0), x.person(0, 1), x.person(0, 2), x.person(0, 3), x.person(1, 3), x.person(2, 0)};
        due("people", people, new int[] {5, 1, 11, 3, 9, -1});
        due("the log", x.fills(), fills);
        due("its unknown ones", x.run(1), -3);
        due("room for three more", x.log(9) + x.log(1) + x.log(0), 8 + 9 + 10);
        due("and no more", x.log(0), -6);
    }

    private static void onHasTheWholeLog() {
        sentence("THE IMAGE: .. the LOG; ON from it all is as then");
        for (int many = 0; many <= 10; many++) {
            TurnsMultiples x = housed("n2;k3;pu1,1,0;pu2,2,0;");
            for (int i = 0; i < many; i++) {
                logs(x, i % 3 == 0 ? 1 : 0);
            }
            due("image", x.image(), 2);
            x.clear();
            logs(x, 0, 1, 1, 0, 1, 1, 0, 1, 1, 0);
            due("on", x.on(), 2);
            due("in the log", x.count(5), many);
            due("those of the second", x.run(2), (many + 2) / 3 % 3);
            due("those of the first", x.run(1), (many - (many + 2) / 3) % 3);
            retell(x, "h22;");
            due("the first of them", x.judge(), many == 0 ? -9 : 0);
            retell(x, "h20;");
            due("the second of them", x.judge(), many < 2 ? -9 : 1);
        }
    }

    private static void onKeepsWhatIsNoneOfIt() {
        sentence("ON from it all is as then: letters that wait and REFUSALS are none of it");
        TurnsMultiples x = new TurnsMultiples();
        x.letter('n');
        x.image();
        x.go(0);
        x.letter('5');
        due("on", x.on(), 0);
        due("letters", x.count(6), 2);
        refused(x, 1);
        due("they are read", tell(x, ";"), 1);
        due("doors", x.count(0), 5);
        due("on", x.on(), 0);
        due("doors", x.count(0), 6);
        due("letters", x.count(6), 0);
    }

    // ---- promise 33

    private static void countDoorsAndColours() {
        sentence("Promise 33: 0 DOORS, 1 COLOURS, 2 PEOPLE");
        for (int n = 1; n <= 12; n++) {
            for (int colours = 2; colours <= 3; colours++) {
                TurnsMultiples x = housed("n" + n + ";k" + colours + ";");
                due("doors", x.count(0), n);
                due("colours", x.count(1), colours);
                due("people", x.count(2), 0);
            }
        }
        TurnsMultiples x = new TurnsMultiples();
        for (int people = 1; people <= 7; people++) {
            retell(x, IDLE);
            due("people", x.count(2), people);
        }
    }

    private static void countOpenAndStuck() {
        sentence("Promise 33: 3 DOORS that do not stand at 0, 4 STUCK ones");
        TurnsMultiples x = housed("n12;k3;");
        for (int door = 1; door <= 12; door++) {
            x.turn(door);
            due("not at 0, one at 1 more", x.count(3), door);
            x.turn(door);
            due("not at 0, it stands at 2", x.count(3), door);
            retell(x, "s" + door + ";");
            due("stuck ones", x.count(4), door);
        }
        due("not at 0, stuck ones too", x.count(3), 12);
        for (int door = 12; door >= 1; door--) {
            retell(x, "s" + door + ";");
            due("stuck ones", x.count(4), door - 1);
            x.turn(door);
            due("not at 0", x.count(3), door - 1);
        }
    }

    private static void countLogLettersGoings() {
        sentence("Promise 33: 5 in the LOG, 6 letters, 7 GOINGS so far");
        TurnsMultiples x = housed("n1;pm1,1,0;");
        for (int i = 1; i <= 10; i++) {
            x.log(9);
            due("in the log", x.count(5), i);
        }
        x.log(9);
        due("in the log, no room", x.count(5), 10);
        for (int i = 1; i <= 64; i++) {
            x.letter(0);
            due("letters", x.count(6), i);
        }
        x.letter(0);
        due("letters, no room", x.count(6), 64);
        for (int i = 1; i <= 40; i++) {
            x.go(0);
            due("goings", x.count(7), i);
        }
        x.go(1);
        x.turn(1);
        x.seeds(9, 9);
        due("goings: no refused one, none by hand, none in mind", x.count(7), 40);
    }

    private static void countRefusals() {
        sentence("Promise 33: 11 .. 16 REFUSALS -1 .. -6");
        TurnsMultiples x = new TurnsMultiples();
        refused(x);
        for (int i = 1; i <= 20; i++) {
            x.go(0);
            x.keys(2);
            x.on();
            x.nth(0);
            x.nth(41);
            refused(x, i, i, i, i, 0, i);
        }
    }

    private static void countOthers() {
        sentence("Promise 33: -9 for another what");
        TurnsMultiples x = new TurnsMultiples();
        x.go(0);
        int[] whats = {LEAST, LEAST + 9, LEAST + 10, -9, -1, 8, 9, 10, 17, 18, 100, GREATEST};
        for (int what : whats) {
            due("count(" + what + ")", x.count(what), -9);
        }
        due("count(0)", x.count(0), 6);
        due("count(7)", x.count(7), 0);
        due("count(11)", x.count(11), 1);
        due("count(16)", x.count(16), 0);
        refused(x, 1);
    }

    // ---- what it is

    private static void callsOfAnObject() {
        sentence("An object is used for at most 512 calls after it has been made");
        TurnsMultiples x = new TurnsMultiples();
        for (int call = 1; call <= 510; call++) {
            due("call " + call + ", turn(6)", x.turn(6), call % 2);
        }
        due("call 511", x.state(), 0);
        due("call 512", x.turn(6), 1);
        String house = "n12;k3;pm1,1,1;";
        TurnsMultiples y = housed(house);
        // count(6), the letters, house().
        int calls = house.length() + 2;
        for (int call = calls + 1; call <= 511; call++) {
            due("call " + call + ", go(0)", y.go(0), 12);
        }
        due("call 512, goings so far", y.count(7), 511 - calls);
    }
}
