/** A test for each promise: ordinary inputs, the edges that the document names, wrong inputs. */
public final class TurnsMultiplesTest extends Dues {
    public static void main(String[] args) {
        newObject();
        letter();
        house();
        houseFirstFaults();
        houseSecondFaults();
        houseKeepsAllWithAFault();
        door();
        person();
        go();
        turn();
        state();
        wished();
        way();
        can();
        fewest();
        cheapest();
        how();
        nothing();
        states();
        keys();
        been();
        sure();
        forEver();
        nth();
        open();
        log();
        order();
        fills();
        run();
        judge();
        clear();
        match();
        seeds();
        image();
        on();
        count();
        whatIsAskedIsNotDone();
        end("every promise holds");
    }

    private static void newObject() {
        TurnsMultiples x = new TurnsMultiples();
        due("new doors", x.count(0), 6);
        due("new colours", x.count(1), 2);
        for (int what = 2; what <= 7; what++) {
            due("new count " + what, x.count(what), 0);
        }
        refused(x);
        for (int door = 1; door <= 6; door++) {
            due("new door " + door, x.door(door, 0), 0);
            due("new wish " + door, x.door(door, 1), 9);
            due("new stuck " + door, x.door(door, 2), 0);
        }
        due("new state", x.state(), 0);
        due("new image", x.on(), -3);
    }

    private static void letter() {
        TurnsMultiples x = new TurnsMultiples();
        due("letter below", x.letter(-1), -4);
        due("letter above", x.letter(256), -6);
        due("letter 0", x.letter(0), 1);
        due("letter 255", x.letter(255), 2);
        for (int i = 3; i <= 64; i++) {
            due("letter " + i, x.letter('n'), i);
        }
        due("letter 65", x.letter('n'), -6);
        due("letter 65 below", x.letter(-5), -4);
        due("letters", x.count(6), 64);
        refused(x, 0, 0, 0, 2, 0, 2);
        due("house of letters", x.house(), -1000);
        due("letters are no more", x.letter(';'), 1);
    }

    private static void house() {
        TurnsMultiples x = housed("n06;k3;pm01,12,0;s05;w012919;h210000;");
        due("doors", x.count(0), 6);
        due("colours", x.count(1), 3);
        due("people", x.count(2), 1);
        due("stuck", x.count(4), 1);
        due("letters", x.count(6), 0);
        due("way of 1", x.door(1, 0), 2);
        due("way of 2", x.door(2, 0), 1);
        due("wish of 3", x.door(3, 1), 2);
        due("wish of 4", x.door(4, 1), 9);
        due("told again", tell(x, "s5;"), 1);
        due("not stuck", x.count(4), 0);
        due("more people", tell(x, "pu1,2,3;pd3,2,1;"), 2);
        due("people", x.count(2), 3);
        due("doors at not 0", x.count(3), 2);
        tell(x, "s1;");
        due("n once more", tell(x, "n6;"), 1);
        due("n: all at 0", x.state(), 0);
        due("n: none stuck", x.count(4), 0);
        due("n: any wish", x.door(1, 1), 9);
        due("n: the wish is so", x.wished(), 1);
        due("n: colours stay", x.count(1), 3);
        due("n: people stay", x.count(2), 3);
        tell(x, "h222222;s1;w222222;");
        due("k once more", tell(x, "k3;"), 1);
        due("k: all at 0", x.state(), 0);
        due("k: none stuck", x.count(4), 0);
        due("k: any wish", x.door(6, 1), 9);
        due("k: the wish is so", x.wished(), 1);
        due("k: doors stay", x.count(0), 6);
        TurnsMultiples y = housed("n12;w111111111111;h010101010101;");
        due("twelve doors", y.state(), 2730);
        due("one door", tell(y, "n1;h1;s1;"), 3);
        due("its state", y.state(), 1);
    }

    private static void houseFirstFaults() {
        TurnsMultiples x = new TurnsMultiples();
        String[] texts = {"", "n", "x", "N6;", ";", "n;", "n123;", "n1", "n12", "n1,", "k;", "k22;", "k", "s;",
            "s123;", "w", "w;", "h;", "wa;", "w1234567890123;", "h0000000000000;", "w123456789012", "p", "pq1,1,1;",
            "pm", "pm,", "pm123,1,1;", "pm1;", "pm1,", "pm1,,", "pm1,123,1;", "pm1,1;", "pm1,1,;", "pm1,1,12;",
            "pm1,1,1", "n6;n", "n6; k2;", "n6;;", "n0;x", "k9;w;", "m6;"};
        int[] places = {0, 1, 0, 0, 0, 1, 3, 2, 3, 2, 1, 2, 1, 1,
            3, 1, 1, 1, 1, 13, 13, 13, 1, 1,
            2, 2, 4, 3, 4, 4, 6, 5, 6, 7,
            7, 4, 3, 3, 3, 4, 0};
        for (int i = 0; i < texts.length; i++) {
            due("fault 1 of '" + texts[i] + "'", tell(x, texts[i]), -1000 - places[i]);
        }
        String rows = "n1;".repeat(21);
        due("64 letters, all but one", tell(x, rows + "n"), -1064);
        due("63 letters", tell(x, rows), 21);
        due("sign 200", x.letter(200), 1);
        due("house of sign 200", x.house(), -1000);
        refused(x);
    }

    private static void houseSecondFaults() {
        TurnsMultiples x = new TurnsMultiples();
        String[] texts = {"n0;", "n00;", "n13;", "n99;", "k0;", "k1;", "k4;", "k9;", "s0;", "s7;", "s99;", "pm0,1,1;",
            "pm13,1,1;", "pu1,0,1;", "pu1,13,1;", "w99999;", "w9999999;", "w222222;", "w333333;", "h000002;",
            "h900000;", "h00000;", "h0000000;", "k3;w333333;", "k3;w012012;h333333;", "n3;w999999;", "n3;w999;s4;",
            "k3;h222222;k2;h222222;", "s1;s7;n0;", "n6;k2;pm1,1,1;s8;", "k3;w800000;", "n12;s12;n6;s12;"};
        int[] places = {0, 0, 0, 0, 0, 0, 0, 0, 0, 0, 0, 0,
            0, 0, 0, 0, 0, 0, 0, 0,
            0, 0, 0, 3, 11, 3, 8,
            14, 3, 14, 3, 11};
        for (int i = 0; i < texts.length; i++) {
            due("fault 2 of '" + texts[i] + "'", tell(x, texts[i]), -2000 - places[i]);
        }
        due("eight people", tell(x, "pm1,1,1;".repeat(8)), -2056);
        due("none came", x.count(2), 0);
        due("seven people", tell(x, "pm1,1,1;".repeat(7)), 7);
        due("one too many", tell(x, "n2;pm1,1,1;"), -2003);
        due("doors stay", x.count(0), 6);
        refused(x);
    }

    private static void houseKeepsAllWithAFault() {
        TurnsMultiples x = housed("n3;k3;pm2,1,4;s1;w012;h120;");
        int[] faults = {tell(x, "n4;pm1,1,1;h0000;s9;"), tell(x, "h000;w999;s1;k")};
        due("second kind", faults[0], -2017);
        due("first kind", faults[1], -1014);
        due("doors", x.count(0), 3);
        due("people", x.count(2), 1);
        due("stuck", x.door(1, 2), 1);
        due("wish", x.door(3, 1), 2);
        due("wish of 1", x.door(1, 1), 0);
        due("state", x.state(), 7);
        due("letters", x.count(6), 0);
        refused(x);
    }

    private static void door() {
        TurnsMultiples x = housed("k3;w029190;h012012;s2;s6;");
        int[] ways = {0, 1, 2, 0, 1, 2};
        int[] wishes = {0, 2, 9, 1, 9, 0};
        int[] stuck = {0, 1, 0, 0, 0, 1};
        for (int door = 1; door <= 6; door++) {
            due("door way " + door, x.door(door, 0), ways[door - 1]);
            due("door wish " + door, x.door(door, 1), wishes[door - 1]);
            due("door stuck " + door, x.door(door, 2), stuck[door - 1]);
        }
        due("door 0", x.door(0, 0), -1);
        due("door 7", x.door(7, 0), -1);
        due("door -5", x.door(-5, 9), -1);
        due("door 33", x.door(33, 0), -1);
        due("what 3", x.door(6, 3), -2);
        due("what -1", x.door(1, -1), -2);
        refused(x, 4, 2);
    }

    private static void person() {
        TurnsMultiples x = housed("n12;pm3,7,0;pd12,5,1;pb2,3,2;pe4,6,3;px2,3,4;", "pu04,09,9;pu9,4,8;");
        int[][] told = {
            {0, 3, 7, 0, bits(3, 6, 9, 12)},
            {1, 12, 5, 1, bits(1, 2, 3, 4, 6, 12)},
            {2, 2, 3, 2, bits(6, 12)},
            {3, 4, 6, 3, bits(4, 6, 8, 12)},
            {4, 2, 3, 4, bits(2, 3, 4, 8, 9, 10)},
            {5, 4, 9, 9, bits(4, 5, 6, 7, 8, 9)},
            {5, 9, 4, 8, 0}};
        for (int person = 0; person < 7; person++) {
            for (int what = 0; what < 5; what++) {
                due("person " + person + " " + what, x.person(person, what), told[person][what]);
            }
        }
        tell(x, "s6;s12;s1;");
        due("stuck ones not, m", x.person(0, 4), bits(3, 9));
        due("stuck ones not, d", x.person(1, 4), bits(2, 3, 4));
        due("stuck ones not, b", x.person(2, 4), 0);
        tell(x, "n5;");
        due("five doors, e", x.person(3, 4), bits(4));
        due("five doors, u", x.person(5, 4), bits(4, 5));
        due("five doors, d", x.person(1, 4), bits(1, 2, 3, 4));
        due("person 7", x.person(7, 0), -1);
        due("person -1", x.person(-1, 7), -1);
        due("what 5", x.person(0, 5), -2);
        due("what -1", x.person(0, -1), -2);
        due("nobody yet", new TurnsMultiples().person(0, 0), -1);
        refused(x, 2, 2);
    }

    private static void go() {
        TurnsMultiples x = housed("pm2,1,1;pu5,6,1;pu6,5,1;s4;");
        due("go 0", x.go(0), 2);
        due("state", x.state(), bits(2, 6));
        due("go 1", x.go(1), 2);
        due("state", x.state(), bits(2, 5));
        due("go 2", x.go(2), 0);
        due("go 3", x.go(3), -1);
        due("go -1", x.go(-1), -1);
        due("go 9", x.go(9), -1);
        due("goings", x.count(7), 3);
        refused(x, 3);
        TurnsMultiples y = housed("n2;k3;pm1,1,1;");
        y.go(0);
        due("once", y.state(), 4);
        y.go(0);
        due("twice", y.state(), 8);
        y.go(0);
        due("three times", y.state(), 0);
    }

    private static void turn() {
        TurnsMultiples x = housed("k3;s4;");
        due("turn", x.turn(6), 1);
        due("turn", x.turn(6), 2);
        due("turn", x.turn(6), 0);
        due("turn 5", x.turn(5), 1);
        due("state", x.state(), 81);
        due("turn stuck", x.turn(4), -3);
        due("turn 0", x.turn(0), -1);
        due("turn 7", x.turn(7), -1);
        due("no going", x.count(7), 0);
        refused(x, 2, 0, 1);
        tell(x, "s4;k2;");
        due("turn 4", x.turn(4), 1);
        due("turn 4", x.turn(4), 0);
    }

    private static void state() {
        TurnsMultiples x = housed("n12;k3;h222222222222;");
        due("greatest", x.state(), 531440);
        tell(x, "h100000000002;");
        due("two doors", x.state(), 1 + 2 * 177147);
        tell(x, "k2;h100000000001;");
        due("two colours", x.state(), 2049);
    }

    private static void wished() {
        TurnsMultiples x = housed("n3;k3;w929;h020;");
        due("wished", x.wished(), 1);
        x.turn(1);
        due("still", x.wished(), 1);
        x.turn(2);
        due("no more", x.wished(), 0);
        tell(x, "w000;h000;");
        due("all at 0", x.wished(), 1);
        tell(x, "h001;");
        due("not all at 0", x.wished(), 0);
        tell(x, "w001;h002;");
        due("2 is not 1", x.wished(), 0);
        tell(x, "w002;h001;");
        due("1 is not 2", x.wished(), 0);
    }

    private static void way() {
        TurnsMultiples x = housed("n4;k3;s2;h1111;");
        int[] multiples = {1, 1, 2, 1};
        int[] divisors = {2, 1, 2, 1};
        int byMultiples = 0;
        for (int number = 1; number <= 4; number++) {
            for (int door = number; door <= 4; door += number) {
                byMultiples += multiples[number - 1] * power(3, door - 1);
            }
        }
        due("way by multiples is of a state", byMultiples > 0 ? 1 : 0, 1);
        int asState = withoutCarry(multiples, true);
        int asDivisors = withoutCarry(divisors, false);
        for (int number = 1; number <= 4; number++) {
            due("way multiples " + number, x.way(asState, number, 0), multiples[number - 1]);
            due("way divisors " + number, x.way(asDivisors, number, 1), divisors[number - 1]);
        }
        due("state 81", x.way(81, 1, 0), -1);
        due("state 80", x.way(80, 1, 0), 2);
        due("state -1", x.way(-1, 1, 5), -1);
        due("number 0", x.way(0, 0, 0), -1);
        due("number 5", x.way(0, 5, 1), -1);
        due("what 2", x.way(0, 4, 2), -2);
        due("what -1", x.way(0, 4, -1), -2);
        refused(x, 4, 2);
        due("state stays", x.state(), 40);
        TurnsMultiples y = housed("n12;");
        for (int number = 1; number <= 12; number++) {
            due("squares' numbers " + number, y.way(4095, number, 0), number == 1 ? 1 : 0);
        }
        int squares = bits(1, 4, 9);
        for (int number = 1; number <= 12; number++) {
            due("all numbers " + number, y.way(squares, number, 0), 1);
        }
        for (int number = 1; number <= 12; number++) {
            due("by the divisors of 12 " + number, y.way(bits(1, 2, 3, 4, 6, 12), number, 1), number == 12 ? 1 : 0);
        }
    }

    private static int power(int base, int exponent) {
        return exponent == 0 ? 1 : base * power(base, exponent - 1);
    }

    /** The state of four doors in three colours behind told goings. */
    private static int withoutCarry(int[] times, boolean multiples) {
        int state = 0;
        for (int door = 4; door >= 1; door--) {
            int turns = 0;
            for (int number = 1; number <= 4; number++) {
                if (multiples ? door % number == 0 : number % door == 0) {
                    turns += times[number - 1];
                }
            }
            state = state * 3 + turns % 3;
        }
        return state;
    }

    private static void can() {
        due("nobody, wish so", new TurnsMultiples().can(), 1);
        TurnsMultiples none = housed("w100000;");
        due("nobody, wish not so", none.can(), 0);
        TurnsMultiples x = housed("n3;pm1,1,1;pm2,1,1;pm2,1,2;w101;");
        due("two of eight", x.can(), 2);
        tell(x, "w999;");
        due("all of eight", x.can(), 8);
        tell(x, "w110;");
        due("none", x.can(), 0);
        tell(x, "w101;");
        x.go(0);
        due("from now", x.can(), 2);
        tell(x, "h101;s2;");
        due("stuck", x.can(), 4);
        TurnsMultiples y = housed("n2;k3;" + "pm1,1,1;".repeat(7), "w22;");
        due("a third of 2187", y.can(), 729);
        due("state stays", y.state(), 0);
        due("no goings", y.count(7), 0);
    }

    private static void fewest() {
        due("nobody, wish so", new TurnsMultiples().fewest(), 0);
        due("nobody, wish not so", housed("w100000;").fewest(), -9);
        TurnsMultiples x = housed("n3;k3;pu1,1,9;pu2,2,9;pu1,3,1;pu3,3,0;w221;");
        due("fewest", x.fewest(), 3);
        tell(x, "w111;");
        due("one", x.fewest(), 1);
        tell(x, "w000;");
        due("so already", x.fewest(), 0);
        x.go(2);
        due("from now", x.fewest(), 2);
        tell(x, "s1;");
        due("stuck", x.fewest(), -9);
        due("stays", x.state(), 13);
    }

    private static void cheapest() {
        due("nobody, wish so", new TurnsMultiples().cheapest(), 0);
        due("nobody, wish not so", housed("w100000;").cheapest(), -9);
        TurnsMultiples x = housed("n3;pu1,3,9;pu1,1,1;pu2,2,2;pu3,3,3;w111;");
        due("cheapest is not of the fewest", x.cheapest(), 6);
        due("fewest", x.fewest(), 1);
        tell(x, "w110;");
        due("two", x.cheapest(), 3);
        tell(x, "s3;h001;");
        due("cannot", x.cheapest(), -9);
        tell(x, "w111;");
        due("from now, stuck", x.cheapest(), 3);
        TurnsMultiples y = housed("n1;k3;pm1,1,9;w2;");
        due("twice", y.cheapest(), 18);
        tell(y, "pm1,1,0;");
        due("free of cost", y.cheapest(), 0);
    }

    private static void how() {
        due("nobody", new TurnsMultiples().how(0), -1);
        TurnsMultiples x = housed("n2;pm1,1,0;pm1,1,0;pu1,1,0;pu2,2,0;w11;");
        due("first with fewest, 0", x.how(0), 0);
        due("first with fewest, 1", x.how(1), 1);
        due("first with fewest, 2", x.how(2), 0);
        due("first with fewest, 3", x.how(3), 0);
        due("how 4", x.how(4), -1);
        due("how -1", x.how(-1), -1);
        refused(x, 2);
        TurnsMultiples y = housed("n1;k3;pm1,1,9;pm1,1,9;w2;");
        due("twice the last", y.how(0), 0);
        due("twice the last", y.how(1), 2);
        tell(y, "h2;");
        due("so already", y.how(1), 0);
        tell(y, "s1;h0;");
        due("none", y.how(0), -9);
        due("none, and nobody", y.how(2), -1);
        refused(y, 1);
        TurnsMultiples z = housed("n3;pu1,1,0;pu2,3,0;pu3,3,0;pu1,2,0;w111;");
        due("fewer first: 0", z.how(0), 0);
        due("fewer first: 1", z.how(1), 0);
        due("fewer first: 2", z.how(2), 1);
        due("fewer first: 3", z.how(3), 1);
    }

    private static void nothing() {
        due("nobody", new TurnsMultiples().nothing(), 1);
        TurnsMultiples x = housed("n3;k3;pm1,1,1;pm2,1,1;h122;");
        due("only none", x.nothing(), 1);
        tell(x, "pu4,4,1;");
        due("who turns nothing", x.nothing(), 3);
        tell(x, "pm1,1,0;");
        due("the same twice", x.nothing(), 9);
        tell(x, "s2;");
        due("stuck", x.nothing(), 27);
        due("two colours", tell(x, "k2;"), 1);
        due("two colours", x.nothing(), 4);
    }

    private static void states() {
        due("nobody", new TurnsMultiples().states(), 1);
        TurnsMultiples x = housed("n3;k3;pm1,1,1;pm2,1,1;pu4,4,0;pm1,1,0;h122;");
        due("nine", x.states(), 9);
        tell(x, "s2;");
        due("stuck", x.states(), 3);
        tell(x, "k2;");
        due("two colours", x.states(), 4);
        TurnsMultiples y = housed("n12;k3;pm1,1,1;pm2,2,2;pm3,3,3;pm4,4,4;pm5,5,5;", "pm6,6,6;pm7,7,7;");
        due("all rows differ", y.states(), 2187);
    }

    private static void keys() {
        TurnsMultiples x = housed("n3;pm1,1,1;pm1,1,1;pu2,3,0;pm2,1,1;pm3,1,1;");
        due("how many", x.keys(0), 3);
        due("which, the least", x.keys(1), 1 + 4 + 8);
        due("what 2", x.keys(2), -2);
        due("what -1", x.keys(-1), -2);
        refused(x, 0, 2);
        tell(x, "h101;w000;");
        due("how it stands is no matter", x.keys(1), 13);
        tell(x, "s3;");
        due("a stuck one", x.keys(0), -9);
        due("a stuck one", x.keys(1), -9);
        tell(x, "n4;");
        due("four doors", x.keys(1), 1 + 4 + 8 + 16);
        tell(x, "n5;");
        due("too few", x.keys(0), -9);
        tell(x, "n1;");
        due("one", x.keys(0), 1);
        due("the first", x.keys(1), 1);
        TurnsMultiples y = housed("n2;pm1,1,0;pu1,1,0;pu2,2,0;");
        due("two colours", y.keys(1), 3);
        TurnsMultiples three = housed("n3;pu1,2,0;pu2,3,0;px2,3,0;pe1,1,0;", "px1,2,0;");
        due("three colours need", tell(three, "k3;"), 1);
        due("keys of three", three.keys(0), 3);
        due("nobody", new TurnsMultiples().keys(1), -9);
        TurnsMultiples odd = housed("n3;k3;pd3,4,1;pd4,1,1;pu2,4,1;");
        due("doors 1 3, 1 2, 2 3: enough in three colours", odd.keys(1), 7);
        tell(odd, "k2;");
        due("not in two: one is both the others", odd.keys(1), -9);
        due("the same doors", housed("n2;k3;px1,3,1;pd2,1,1;").keys(1), -9);
        due("a sum of the first two is no key", housed("n3;k3;pe1,4,1;pd1,2,1;px3,2,1;pb1,2,1;").keys(1), 11);
        TurnsMultiples most = housed("n7;pm1,1,1;pm2,2,2;pm3,3,3;pm4,4,4;pm5,5,5;", "pm6,6,6;pm7,7,7;");
        due("seven", most.keys(0), 7);
        due("all seven", most.keys(1), 127);
    }

    private static void been() {
        due("nobody, all at 0", new TurnsMultiples().been(), 1);
        TurnsMultiples x = housed("n3;k3;pm1,1,1;pm2,1,1;pm1,1,1;h121;");
        due("three ways", x.been(), 3);
        x.turn(1);
        due("by hand", x.been(), 0);
        tell(x, "h101;");
        due("from all at 0", x.been(), 3);
        tell(x, "s2;");
        due("stuck at 0", x.been(), 9);
        tell(x, "h121;");
        due("stuck at 2", x.been(), 0);
    }

    private static void sure() {
        due("nobody", new TurnsMultiples().sure(), 0);
        TurnsMultiples x = housed("n3;k3;pm1,1,1;pm2,1,1;pm3,1,1;h121;");
        due("two of three", x.sure(), 3);
        tell(x, "pm1,1,0;");
        due("one of the two, not surely", x.sure(), 2);
        tell(x, "h111;");
        due("not surely", x.sure(), 0);
        tell(x, "h020;");
        due("the second", x.sure(), 2);
        tell(x, "h100;");
        due("in ways with 3", x.sure(), 2 + 4);
        TurnsMultiples y = housed("n2;pm1,1,1;h10;");
        due("none", y.sure(), 0);
        tell(y, "s2;");
        due("stuck at 0", y.sure(), 1);
    }

    private static void forEver() {
        TurnsMultiples x = new TurnsMultiples();
        int[] squares = {1, 4, 9, 999950884, 49, 225};
        int[] others = {2, 3, 8, 1000000000, 999999937, 12, 999950883};
        for (int far : squares) {
            due("for ever " + far, x.forEver(far), 1);
        }
        for (int far : others) {
            due("for ever " + far, x.forEver(far), 0);
        }
        due("0", x.forEver(0), -4);
        due("below", x.forEver(-2147483648), -4);
        due("above", x.forEver(1000000001), -6);
        refused(x, 0, 0, 0, 2, 0, 1);
        tell(x, "k3;h222222;");
        int[] divisors = {1, 2, 2, 3, 2, 4, 2, 4, 3, 4, 2, 6};
        for (int far = 1; far <= 12; far++) {
            due("three colours " + far, x.forEver(far), divisors[far - 1] % 3);
        }
        due("100 divisors", x.forEver(1000000000), 1);
        due("a prime", x.forEver(999999937), 2);
    }

    private static void nth() {
        TurnsMultiples x = new TurnsMultiples();
        for (int k = 1; k <= 40; k++) {
            due("nth " + k, x.nth(k), k * k);
        }
        due("0", x.nth(0), -4);
        due("41", x.nth(41), -6);
        refused(x, 0, 0, 0, 1, 0, 1);
        tell(x, "k3;");
        int found = 0;
        for (int far = 1; found < 40; far++) {
            if (divisors(far) % 3 != 0) {
                found++;
                due("three colours, nth " + found, x.nth(found), far);
            }
        }
    }

    private static int divisors(int number) {
        int divisors = 0;
        for (int i = 1; i <= number; i++) {
            divisors += number % i == 0 ? 1 : 0;
        }
        return divisors;
    }

    private static void open() {
        TurnsMultiples x = new TurnsMultiples();
        due("open 1", x.open(1), 1);
        due("open 3", x.open(3), 1);
        due("open 4", x.open(4), 2);
        due("open 1935", x.open(1935), 43);
        due("open 1936", x.open(1936), 44);
        due("open 2000", x.open(2000), 44);
        due("0", x.open(0), -4);
        due("2001", x.open(2001), -6);
        refused(x, 0, 0, 0, 1, 0, 1);
        tell(x, "k3;");
        int open = 0;
        for (int far = 1; far <= 2000; far++) {
            open += divisors(far) % 3 != 0 ? 1 : 0;
            if (far % 50 == 0) {
                due("three colours, open " + far, x.open(far), open);
            }
        }
    }

    private static void log() {
        TurnsMultiples x = housed("pm1,1,1;pm2,1,1;");
        due("log 0", x.log(0), 1);
        due("log 1", x.log(1), 2);
        due("log 2", x.log(2), -1);
        due("log 8", x.log(8), -1);
        due("log 10", x.log(10), -1);
        due("log -1", x.log(-1), -1);
        for (int i = 3; i <= 10; i++) {
            due("log " + i, x.log(9), i);
        }
        due("log 11", x.log(0), -6);
        due("log 11, unknown", x.log(9), -6);
        due("log 11, nobody", x.log(2), -1);
        due("logged", x.count(5), 10);
        due("nothing goes", x.state(), 0);
        due("no goings", x.count(7), 0);
        refused(x, 5, 0, 0, 0, 0, 2);
    }

    private static void order() {
        TurnsMultiples x = housed("n3;pm1,1,1;pm2,1,1;");
        due("no log", x.order(1), 0);
        logs(x, 1, 1, 9);
        due("never turned, at 0", x.order(1), 3);
        due("turned twice", x.order(2), 1);
        x.turn(1);
        due("never turned, not at 0", x.order(1), 0);
        logs(x, 0);
        due("turned once to 0: the others ahead", x.order(1), 1);
        due("turned three times", x.order(2), 1);
        due("turned once from 0", x.order(3), 0);
        due("door 0", x.order(0), -1);
        due("door 4", x.order(4), -1);
        refused(x, 2);
        tell(x, "s3;");
        due("stuck at 0", x.order(3), 4);
        TurnsMultiples y = housed("n2;k3;pm1,1,1;pu2,2,1;h02;");
        logs(y, 0, 0, 0, 0, 0, 0, 9, 1, 1, 1);
        due("six turns from 0", y.order(1), 2);
        y.turn(1);
        due("six turns from 1", y.order(1), 2);
        tell(y, "h22;");
        due("six turns from 2", y.order(1), 2);
        due("nine turns from 2", y.order(2), 3);
        due("the log stays", y.count(5), 10);
        y.clear();
        logs(y, 0);
        due("one turn from 2", y.order(1), 1);
        tell(y, "h10;");
        due("one turn from 1", y.order(1), 0);
        logs(y, 0, 1);
        due("two turns from 1, one goes by", y.order(1), 1);
    }

    private static void fills() {
        TurnsMultiples x = housed("n3;k3;pm1,1,1;pm2,1,1;pm1,1,1;");
        due("no log, all at 0", x.fills(), 1);
        logs(x, 0, 9);
        tell(x, "h222;");
        due("one unknown", x.fills(), 2);
        logs(x, 9);
        tell(x, "h020;");
        due("two unknown", x.fills(), 0);
        tell(x, "h202;");
        due("two unknown, one of them the second", x.fills(), 4);
        tell(x, "h000;");
        due("two unknown", x.fills(), 4);
        logs(x, 9);
        tell(x, "h121;");
        due("three unknown", x.fills(), 0);
        tell(x, "h111;");
        due("three unknown, all at 1", x.fills(), 8 + 1);
        logs(x, 9);
        due("four unknown", x.fills(), -6);
        refused(x, 0, 0, 0, 0, 0, 1);
        TurnsMultiples nobody = new TurnsMultiples();
        logs(nobody, 9);
        due("nobody can have been", nobody.fills(), 0);
        TurnsMultiples known = housed("pm1,1,1;pm1,1,1;h111111;");
        due("no log, not at 0", known.fills(), 0);
        logs(known, 1);
        due("known alone", known.fills(), 1);
        logs(known, 0);
        due("known alone, not so", known.fills(), 0);
        tell(known, "s1;h011111;");
        logs(known, 9);
        due("stuck", known.fills(), 2);
    }

    private static void run() {
        TurnsMultiples x = housed("n3;k3;pm1,1,1;pm2,1,1;h021;");
        due("no log", x.run(2), 2);
        logs(x, 0, 0, 1);
        due("run 1", x.run(1), 2);
        due("run 2", x.run(2), 2);
        due("run 3", x.run(3), 0);
        tell(x, "s3;");
        due("stuck", x.run(3), 1);
        due("run 0", x.run(0), -1);
        due("run 4", x.run(4), -1);
        logs(x, 9);
        due("unknown", x.run(1), -3);
        due("unknown, no door", x.run(4), -1);
        refused(x, 3, 0, 1);
        due("stays", x.state(), 6 + 9);
        due("no goings", x.count(7), 0);
    }

    private static void judge() {
        TurnsMultiples x = housed("n3;k3;pm1,1,1;pm2,1,1;pu4,4,1;");
        due("no log", x.judge(), -9);
        logs(x, 0, 1, 2, 1);
        due("the fourth: door 2 to 0", x.judge(), 3);
        tell(x, "h002;");
        due("the first: door 3 to 0", x.judge(), 0);
        tell(x, "s3;");
        due("stuck at 2", x.judge(), 3);
        due("the log stays", x.count(5), 4);
        tell(x, "s2;");
        due("two stuck", x.judge(), -9);
        logs(x, 9);
        due("unknown", x.judge(), -3);
        refused(x, 0, 0, 1);
        TurnsMultiples y = housed("n2;pm1,1,1;pm2,1,1;");
        logs(y, 1, 0);
        due("one to 0 while another leaves it", y.judge(), 1);
        due("stays", y.state(), 0);
        due("no goings", y.count(7), 0);
    }

    private static void clear() {
        TurnsMultiples x = housed("pm1,1,1;");
        due("none", x.clear(), 0);
        logs(x, 0, 9, 0);
        due("three", x.clear(), 3);
        due("none more", x.count(5), 0);
        due("no unknown ones", x.run(1), 0);
        due("none", x.clear(), 0);
        logs(x, 0);
    }

    private static void match() {
        due("no people, so now", new TurnsMultiples().match(), 0);
        due("no people, not so", housed("w100000;").match(), 2);
        TurnsMultiples x = housed("n2;pu1,1,1;w19;");
        due("wins at once", x.match(), 1);
        tell(x, "h10;");
        due("so now", x.match(), 0);
        tell(x, "k3;w29;");
        due("the other wins then", x.match(), 0);
        tell(x, "pu2,2,1;");
        due("who would bring it near goes by", x.match(), 2);
        tell(x, "h10;");
        due("near", x.match(), 1);
        tell(x, "s1;");
        due("stuck", x.match(), 2);
        TurnsMultiples y = housed("n3;k3;pm1,1,1;pm1,1,1;w222;h000;");
        due("whatever he does", y.match(), 0);
        due("where a third going counts", housed("n2;k3;px2,1,1;pe3,1,1;w20;").match(), 1);
        due("stays", y.state(), 0);
        due("no goings", y.count(7), 0);
    }

    private static void seeds() {
        TurnsMultiples x = housed("n3;k3;pm1,1,1;pm2,1,1;pm3,1,1;s2;");
        due("none", x.seeds(0, 5), 0);
        int z = -77;
        int[] ways = new int[3];
        for (int i = 0; i < 99; i++) {
            z = z * 1664525 + 1013904223;
            int person = (z & 0x7fffffff) / 256 % 3;
            ways[0] += person == 0 ? 1 : 0;
            ways[2] += person != 1 ? 1 : 0;
        }
        int then = ways[0] % 3 + 9 * (ways[2] % 3);
        due("99", x.seeds(99, -77), then);
        due("nobody went", x.state(), 0);
        due("no goings", x.count(7), 0);
        due("99 once more", x.seeds(99, -77), then);
        due("none, once more", x.seeds(0, -77), 0);
        tell(x, "h212;");
        due("none from now", x.seeds(0, -77), 2 + 3 + 18);
        int later = (2 + ways[0]) % 3 + 3 + 9 * ((2 + ways[2]) % 3);
        due("99 from now", x.seeds(99, -77), later);
        due("as it stood", x.state(), 2 + 3 + 18);
        due("no goings still", x.count(7), 0);
        due("no going is logged", x.count(5), 0);
        due("below", x.seeds(-1, 0), -4);
        due("above", x.seeds(100, 0), -6);
        refused(x, 0, 0, 0, 1, 0, 1);
        int[] firsts = {3960563, 3967065, 3954061, 3954061, 3960563};
        int[] seedsOfThem = {0, 1, -1, 2147483647, -2147483648};
        TurnsMultiples seven = housed("n7;" + "pu1,1,1;pu2,2,1;pu3,3,1;pu4,4,1;", "pu5,5,1;pu6,6,1;pu7,7,1;");
        for (int i = 0; i < firsts.length; i++) {
            int person = firsts[i] % 7;
            due("first draw " + i, firstDraw(seedsOfThem[i]), firsts[i]);
            due("one of seven " + i, seven.seeds(1, seedsOfThem[i]), 1 << person);
        }
        TurnsMultiples alone = housed("n1;k3;pm1,1,1;h2;");
        due("one alone", alone.seeds(5, 1), 1);
        TurnsMultiples y = new TurnsMultiples();
        due("nobody", y.seeds(0, 0), -3);
        due("nobody, below", y.seeds(-1, 0), -4);
        due("nobody, above", y.seeds(100, 0), -6);
        refused(y, 0, 0, 1, 1, 0, 1);
        // From seed 0 the first draw is 1013904223 by 256, cut: 3960563, modulo 2: 1.
        TurnsMultiples one = housed("n2;pu1,1,1;pu2,2,1;");
        due("one of two", one.seeds(1, 0), 2);
    }

    private static int firstDraw(int seed) {
        long all = (seed * 1664525L + 1013904223L) % (1L << 31);
        return (int) ((all < 0 ? all + (1L << 31) : all) / 256);
    }

    private static void image() {
        TurnsMultiples x = new TurnsMultiples();
        due("nobody", x.image(), 0);
        tell(x, "pm1,1,1;pm2,1,1;");
        due("two", x.image(), 2);
        tell(x, "pm2,1,1;");
        due("taken anew", x.image(), 3);
        due("on from it", x.on(), 3);
        refused(x);
    }

    private static void on() {
        TurnsMultiples x = new TurnsMultiples();
        due("none", x.on(), -3);
        tell(x, "n4;k3;pm1,1,5;s2;w0129;h2010;");
        x.go(0);
        logs(x, 0, 9);
        int state = x.state();
        x.letter('n');
        due("image", x.image(), 1);
        due("another house", tell(x, "5;k2;pm3,2,1;s1;w00000;h11111;"), 6);
        x.go(1);
        x.clear();
        logs(x, 1);
        x.go(5);
        x.letter('k');
        due("on", x.on(), 1);
        due("doors", x.count(0), 4);
        due("colours", x.count(1), 3);
        due("people", x.count(2), 1);
        due("cost", x.person(0, 3), 5);
        due("no second", x.person(1, 0), -1);
        due("stuck", x.door(2, 2), 1);
        due("not stuck", x.door(1, 2), 0);
        due("wish", x.door(3, 1), 2);
        due("any", x.door(4, 1), 9);
        due("state", x.state(), state);
        due("goings", x.count(7), 1);
        due("log", x.count(5), 2);
        due("unknown", x.run(1), -3);
        due("letters stay", x.count(6), 1);
        refused(x, 2, 0, 2);
        x.go(0);
        x.clear();
        due("on once more", x.on(), 1);
        due("state", x.state(), state);
        due("log", x.count(5), 2);
        due("goings", x.count(7), 1);
        TurnsMultiples y = housed("n2;pu1,1,1;pu2,2,1;");
        logs(y, 0, 1, 1);
        y.image();
        y.clear();
        logs(y, 1, 0, 0, 9);
        y.on();
        due("the log as then: door 1", y.run(1), 1);
        due("the log as then: door 2", y.run(2), 0);
        due("the log as then", y.count(5), 3);
    }

    private static void count() {
        TurnsMultiples x = housed("n5;k3;pm1,1,1;pm2,1,1;s1;s3;h10200;");
        x.letter('a');
        x.letter('b');
        x.go(1);
        logs(x, 0, 1, 9);
        int[] counts = {5, 3, 2, 4, 2, 3, 2, 1};
        for (int what = 0; what < counts.length; what++) {
            due("count " + what, x.count(what), counts[what]);
        }
        int[] others = {-1, 8, 9, 10, 17, 100, -2147483648, 2147483647};
        for (int what : others) {
            due("count " + what, x.count(what), -9);
        }
        refused(x);
        x.go(9);
        x.keys(3);
        x.turn(1);
        x.nth(0);
        x.nth(41);
        refused(x, 1, 1, 1, 1, 0, 1);
    }

    /** Only what its promise says changes something: of all other calls each can be asked twice. */
    private static void whatIsAskedIsNotDone() {
        TurnsMultiples x = housed("n4;k3;pm1,1,1;pm2,1,2;pu3,4,3;pd3,1,0;s4;", "w1929;h2101;");
        x.go(1);
        logs(x, 0, 1, 0, 2);
        x.letter('n');
        int[] stands = standing(x);
        int[] answers = asked(x);
        int[] again = asked(x);
        for (int i = 0; i < answers.length; i++) {
            due("asked again, " + i, again[i], answers[i]);
        }
        int[] then = standing(x);
        for (int i = 0; i < stands.length; i++) {
            due("stands as before, " + i, then[i], stands[i]);
        }
        refused(x);
    }

    private static int[] asked(TurnsMultiples x) {
        return new int[] {
            x.door(1, 0), x.person(0, 4), x.state(), x.wished(), x.way(5, 2, 0), x.way(5, 2, 1), x.can(), x.fewest(),
            x.cheapest(), x.how(0), x.how(1), x.nothing(), x.states(), x.keys(0), x.keys(1), x.been(), x.sure(),
            x.forEver(12), x.nth(7), x.open(50), x.order(1), x.order(2), x.fills(), x.run(1), x.run(3), x.judge(),
            x.match(), x.seeds(1, 5), x.seeds(2, 0), x.seeds(98, 7), x.image(), x.count(3)};
    }

    private static int[] standing(TurnsMultiples x) {
        int[] all = new int[21];
        for (int what = 0; what <= 7; what++) {
            all[what] = x.count(what);
        }
        all[8] = x.state();
        for (int door = 1; door <= 4; door++) {
            for (int what = 0; what <= 2; what++) {
                all[6 + 3 * door + what] = x.door(door, what);
            }
        }
        return all;
    }
}
