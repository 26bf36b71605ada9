import java.util.function.ToIntFunction;

/** Each REFUSAL: which number fits first, that it is counted, and that nothing else changes. */
public final class TurnsMultiplesRefusalsTest extends Dues {
    private static final int LEAST = Integer.MIN_VALUE;
    private static final int GREATEST = Integer.MAX_VALUE;

    public static void main(String[] args) {
        letter();
        letterWhereThereIsNoRoom();
        door();
        person();
        go();
        turn();
        way();
        how();
        keys();
        forEver();
        nth();
        open();
        log();
        logWhereThereIsNoRoom();
        order();
        fills();
        run();
        runWithUnknown();
        judge();
        seeds();
        seedsOfNobody();
        on();
        noRefusals();
        end("every refusal changes nothing");
    }

    /** Three doors in three colours, two people, and something in all that can change. */
    private static TurnsMultiples lively() {
        TurnsMultiples x = housed("n3;k3;pm1,2,4;pu3,3,7;h211;s2;w019;");
        x.go(1);
        logs(x, 1, 0, 1);
        due("image", x.image(), 2);
        x.go(0);
        x.turn(3);
        logs(x, 0);
        due("a letter that waits", x.letter('n'), 1);
        return x;
    }

    private static TurnsMultiples withLog(int... people) {
        TurnsMultiples x = lively();
        x.clear();
        logs(x, people);
        return x;
    }

    /** All that can be asked, but for how many were refused. */
    private static int[] asked(TurnsMultiples x) {
        int[] all = new int[51];
        int at = 0;
        for (int what = 0; what <= 7; what++) {
            all[at++] = x.count(what);
        }
        for (int door = 1; door <= 3; door++) {
            for (int what = 0; what <= 2; what++) {
                all[at++] = x.door(door, what);
            }
            all[at++] = x.order(door);
            all[at++] = x.run(door);
        }
        for (int person = 0; person <= 1; person++) {
            for (int what = 0; what <= 4; what++) {
                all[at++] = x.person(person, what);
            }
            all[at++] = x.how(person);
        }
        int[] others = {x.state(), x.wished(), x.can(), x.fewest(), x.cheapest(), x.nothing(), x.states(), x.keys(1),
            x.been(), x.sure(), x.fills(), x.judge(), x.match(), x.seeds(9, 5), x.way(1, 3, 0), x.way(1, 1, 1)};
        for (int other : others) {
            all[at++] = other;
        }
        return all;
    }

    private static int[] counts(TurnsMultiples x) {
        int[] counts = new int[6];
        for (int i = 0; i < counts.length; i++) {
            counts[i] = x.count(11 + i);
        }
        return counts;
    }

    /** The call answers the number, it is counted once, and all else is as it was, the image too. */
    private static void refuses(TurnsMultiples x, int number, String told, ToIntFunction<TurnsMultiples> call) {
        int[] before = asked(x);
        int[] counted = counts(x);
        due(told, call.applyAsInt(x), number);
        counted[-number - 1]++;
        due("refusals behind " + told, counts(x), counted);
        due("what stands behind " + told, asked(x), before);
    }

    private static void refuses(int number, String told, ToIntFunction<TurnsMultiples> call) {
        TurnsMultiples x = lively();
        refuses(x, number, told, call);
        imageStays(x, told);
    }

    private static void imageStays(TurnsMultiples x, String told) {
        due("on behind " + told, x.on(), 2);
        TurnsMultiples same = lively();
        same.on();
        due("the image behind " + told, asked(x), asked(same));
    }

    private static void letter() {
        sentence("Promise 2: -4; -6 (255)");
        refuses(-4, "letter(-1)", x -> x.letter(-1));
        refuses(-4, "letter(least)", x -> x.letter(LEAST));
        refuses(-6, "letter(256)", x -> x.letter(256));
        refuses(-6, "letter(greatest)", x -> x.letter(GREATEST));
    }

    private static void letterWhereThereIsNoRoom() {
        sentence("Promise 2: -6 (64, too)");
        TurnsMultiples x = lively();
        for (int i = 2; i <= 64; i++) {
            due("letter " + i, x.letter('1'), i);
        }
        refuses(x, -6, "letter(49)", y -> y.letter('1'));
        TurnsMultiples full = new TurnsMultiples();
        for (int i = 1; i <= 64; i++) {
            due("letter " + i, full.letter('1'), i);
        }
        refuses(full, -4, "letter(-1), below ahead of no room", y -> y.letter(-1));
        due("the letters are as they were", full.house(), -1000);
    }

    private static void door() {
        sentence("Promise 4: -1; -2");
        refuses(-1, "door(0, 0)", x -> x.door(0, 0));
        refuses(-1, "door(4, 0)", x -> x.door(4, 0));
        refuses(-1, "door(-1, 1)", x -> x.door(-1, 1));
        refuses(-1, "door(least, 2)", x -> x.door(LEAST, 2));
        refuses(-1, "door(greatest, 2)", x -> x.door(GREATEST, 2));
        refuses(-2, "door(1, -1)", x -> x.door(1, -1));
        refuses(-2, "door(3, 3)", x -> x.door(3, 3));
        refuses(-2, "door(1, least)", x -> x.door(1, LEAST));
        refuses(-2, "door(3, greatest)", x -> x.door(3, GREATEST));
        refuses(-1, "door(0, 3)", x -> x.door(0, 3));
        refuses(-1, "door(4, -1)", x -> x.door(4, -1));
    }

    private static void person() {
        sentence("Promise 5: -1; -2");
        refuses(-1, "person(-1, 0)", x -> x.person(-1, 0));
        refuses(-1, "person(2, 0)", x -> x.person(2, 0));
        refuses(-1, "person(9, 0)", x -> x.person(9, 0));
        refuses(-1, "person(least, 4)", x -> x.person(LEAST, 4));
        refuses(-1, "person(greatest, 4)", x -> x.person(GREATEST, 4));
        refuses(-2, "person(0, -1)", x -> x.person(0, -1));
        refuses(-2, "person(1, 5)", x -> x.person(1, 5));
        refuses(-2, "person(0, least)", x -> x.person(0, LEAST));
        refuses(-2, "person(1, greatest)", x -> x.person(1, GREATEST));
        refuses(-1, "person(-1, 5)", x -> x.person(-1, 5));
        refuses(-1, "person(2, -1)", x -> x.person(2, -1));
    }

    private static void go() {
        sentence("Promise 6: -1");
        refuses(-1, "go(-1)", x -> x.go(-1));
        refuses(-1, "go(2)", x -> x.go(2));
        refuses(-1, "go(9)", x -> x.go(9));
        refuses(-1, "go(least)", x -> x.go(LEAST));
        refuses(-1, "go(greatest)", x -> x.go(GREATEST));
    }

    private static void turn() {
        sentence("Promise 7: -1; -3 STUCK");
        refuses(-1, "turn(0)", x -> x.turn(0));
        refuses(-1, "turn(4)", x -> x.turn(4));
        refuses(-1, "turn(-1)", x -> x.turn(-1));
        refuses(-1, "turn(34), a bit's number beyond an int", x -> x.turn(34));
        refuses(-1, "turn(least)", x -> x.turn(LEAST));
        refuses(-1, "turn(greatest)", x -> x.turn(GREATEST));
        refuses(-3, "turn(2), stuck", x -> x.turn(2));
    }

    private static void way() {
        sentence("Promise 10: -1 either; -2");
        refuses(-1, "way(-1, 1, 0)", x -> x.way(-1, 1, 0));
        refuses(-1, "way(27, 1, 0)", x -> x.way(27, 1, 0));
        refuses(-1, "way(least, 1, 1)", x -> x.way(LEAST, 1, 1));
        refuses(-1, "way(greatest, 1, 1)", x -> x.way(GREATEST, 1, 1));
        refuses(-1, "way(0, 0, 0)", x -> x.way(0, 0, 0));
        refuses(-1, "way(26, 4, 1)", x -> x.way(26, 4, 1));
        refuses(-1, "way(0, least, 0)", x -> x.way(0, LEAST, 0));
        refuses(-1, "way(0, greatest, 0)", x -> x.way(0, GREATEST, 0));
        refuses(-1, "way(27, 4, 0)", x -> x.way(27, 4, 0));
        refuses(-2, "way(0, 1, -1)", x -> x.way(0, 1, -1));
        refuses(-2, "way(26, 3, 2)", x -> x.way(26, 3, 2));
        refuses(-2, "way(0, 1, least)", x -> x.way(0, 1, LEAST));
        refuses(-2, "way(0, 1, greatest)", x -> x.way(0, 1, GREATEST));
        refuses(-1, "way(27, 1, 2)", x -> x.way(27, 1, 2));
        refuses(-1, "way(26, 4, -1)", x -> x.way(26, 4, -1));
    }

    private static void how() {
        sentence("Promise 14: -1");
        refuses(-1, "how(-1)", x -> x.how(-1));
        refuses(-1, "how(2)", x -> x.how(2));
        refuses(-1, "how(9)", x -> x.how(9));
        refuses(-1, "how(least)", x -> x.how(LEAST));
        refuses(-1, "how(greatest)", x -> x.how(GREATEST));
    }

    private static void keys() {
        sentence("Promise 17: -2");
        refuses(-2, "keys(-1)", x -> x.keys(-1));
        refuses(-2, "keys(2)", x -> x.keys(2));
        refuses(-2, "keys(least)", x -> x.keys(LEAST));
        refuses(-2, "keys(greatest)", x -> x.keys(GREATEST));
    }

    private static void forEver() {
        sentence("Promise 20: -4 below 1; -6 1000000000");
        refuses(-4, "forEver(0)", x -> x.forEver(0));
        refuses(-4, "forEver(-1)", x -> x.forEver(-1));
        refuses(-4, "forEver(least)", x -> x.forEver(LEAST));
        refuses(-6, "forEver(1000000001)", x -> x.forEver(1000000001));
        refuses(-6, "forEver(greatest)", x -> x.forEver(GREATEST));
    }

    private static void nth() {
        sentence("Promise 21: -4; -6 40");
        refuses(-4, "nth(0)", x -> x.nth(0));
        refuses(-4, "nth(-1)", x -> x.nth(-1));
        refuses(-4, "nth(least)", x -> x.nth(LEAST));
        refuses(-6, "nth(41)", x -> x.nth(41));
        refuses(-6, "nth(greatest)", x -> x.nth(GREATEST));
    }

    private static void open() {
        sentence("Promise 22: -4; -6 2000");
        refuses(-4, "open(0)", x -> x.open(0));
        refuses(-4, "open(-1)", x -> x.open(-1));
        refuses(-4, "open(least)", x -> x.open(LEAST));
        refuses(-6, "open(2001)", x -> x.open(2001));
        refuses(-6, "open(greatest)", x -> x.open(GREATEST));
    }

    private static void log() {
        sentence("Promise 23: -1 nobody such (9 there is)");
        refuses(-1, "log(-1)", x -> x.log(-1));
        refuses(-1, "log(2)", x -> x.log(2));
        refuses(-1, "log(8)", x -> x.log(8));
        refuses(-1, "log(10)", x -> x.log(10));
        refuses(-1, "log(least)", x -> x.log(LEAST));
        refuses(-1, "log(greatest)", x -> x.log(GREATEST));
    }

    private static void logWhereThereIsNoRoom() {
        sentence("Promise 23: -1 nobody such; -6 10");
        int[] ten = {0, 1, 0, 0, 1, 0, 1, 1, 1, 0};
        refuses(withLog(ten), -6, "log(0), the eleventh", x -> x.log(0));
        refuses(withLog(ten), -6, "log(1), the eleventh", x -> x.log(1));
        refuses(withLog(ten), -6, "log(9), the eleventh", x -> x.log(9));
        refuses(withLog(ten), -1, "log(2), nobody ahead of no room", x -> x.log(2));
        refuses(withLog(ten), -1, "log(10), nobody ahead of no room", x -> x.log(10));
    }

    private static void order() {
        sentence("Promise 24: -1");
        refuses(-1, "order(0)", x -> x.order(0));
        refuses(-1, "order(4)", x -> x.order(4));
        refuses(-1, "order(-1)", x -> x.order(-1));
        refuses(-1, "order(least)", x -> x.order(LEAST));
        refuses(-1, "order(greatest)", x -> x.order(GREATEST));
    }

    private static void fills() {
        sentence("Promise 25: -6 more than 3 unknown");
        refuses(withLog(9, 9, 9, 9), -6, "fills() of four", x -> x.fills());
        refuses(withLog(9, 0, 9, 1, 9, 9, 9), -6, "fills() of five", x -> x.fills());
        refuses(withLog(9, 9, 9, 9, 9, 9, 9, 9, 9, 9), -6, "fills() of ten", x -> x.fills());
    }

    private static void run() {
        sentence("Promise 26: -1");
        refuses(-1, "run(0)", x -> x.run(0));
        refuses(-1, "run(4)", x -> x.run(4));
        refuses(-1, "run(-1)", x -> x.run(-1));
        refuses(-1, "run(least)", x -> x.run(LEAST));
        refuses(-1, "run(greatest)", x -> x.run(GREATEST));
    }

    private static void runWithUnknown() {
        sentence("Promise 26: -1; -3 there are unknown ones");
        refuses(withLog(9), -3, "run(1), one alone", x -> x.run(1));
        refuses(withLog(9, 0, 1), -3, "run(3), the first", x -> x.run(3));
        refuses(withLog(0, 1, 9), -3, "run(2), the last", x -> x.run(2));
        refuses(withLog(9), -1, "run(0), no such door ahead of unknown ones", x -> x.run(0));
        refuses(withLog(9), -1, "run(4), no such door ahead of unknown ones", x -> x.run(4));
    }

    private static void judge() {
        sentence("Promise 27: -3 there are unknown ones");
        refuses(withLog(9), -3, "judge(), one alone", x -> x.judge());
        refuses(withLog(0, 0, 0, 9), -3, "judge(), the last", x -> x.judge());
        refuses(withLog(9, 9, 9, 9, 9, 9, 9, 9, 9, 9), -3, "judge(), ten", x -> x.judge());
    }

    private static void seeds() {
        sentence("Promise 30: -4; -6 99");
        refuses(-4, "seeds(-1, 0)", x -> x.seeds(-1, 0));
        refuses(-4, "seeds(least, 7)", x -> x.seeds(LEAST, 7));
        refuses(-6, "seeds(100, 0)", x -> x.seeds(100, 0));
        refuses(-6, "seeds(greatest, 7)", x -> x.seeds(GREATEST, 7));
    }

    private static void seedsOfNobody() {
        sentence("Promise 30: -4; -6 99; -3 there are no PEOPLE");
        refuses(new TurnsMultiples(), -3, "seeds(0, 0)", x -> x.seeds(0, 0));
        refuses(new TurnsMultiples(), -3, "seeds(1, 0)", x -> x.seeds(1, 0));
        refuses(new TurnsMultiples(), -3, "seeds(99, 0)", x -> x.seeds(99, 0));
        refuses(new TurnsMultiples(), -4, "seeds(-1, 0)", x -> x.seeds(-1, 0));
        refuses(new TurnsMultiples(), -6, "seeds(100, 0)", x -> x.seeds(100, 0));
    }

    private static void on() {
        sentence("Promise 32: -3 there is none");
        refuses(new TurnsMultiples(), -3, "on()", x -> x.on());
        TurnsMultiples x = housed("n3;k3;pm1,2,4;pu3,3,7;h211;s2;w019;");
        x.go(1);
        logs(x, 1, 0, 9);
        refuses(x, -3, "on()", y -> y.on());
        due("image", x.image(), 2);
        due("there is one now", x.on(), 2);
    }

    private static void noRefusals() {
        sentence("REFUSALS: -9 and a FAULT are none of them");
        TurnsMultiples x = housed("n2;pm1,1,1;s1;w19;");
        int[] nines = {x.fewest(), x.cheapest(), x.how(0), x.keys(0), x.keys(1), x.judge(), x.count(-1), x.count(8),
            x.count(10), x.count(17)};
        for (int i = 0; i < nines.length; i++) {
            due("-9, " + i, nines[i], -9);
        }
        due("a fault", x.house(), -1000);
        due("another", tell(x, "n0;"), -2000);
        refused(x);
    }
}
