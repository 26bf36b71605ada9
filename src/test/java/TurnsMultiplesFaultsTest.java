/** The letters of a HOUSE: each limit at it, just inside it and just outside it, and the two kinds of FAULT. */
public final class TurnsMultiplesFaultsTest extends Dues {
    private static final String LONG = "n12;k3;pm01,12,9;s10;w999999999999;h012012012012;";

    public static void main(String[] args) {
        letterValues();
        letterRoom();
        lettersAreNoMore();
        doorsTold();
        coloursTold();
        kindsTold();
        personNumbersTold();
        personNumbersInRange();
        costTold();
        peopleRoom();
        stuckTold();
        stuckToldAgain();
        wishLength();
        wishDigits();
        standLength();
        standDigits();
        doorsAnew();
        coloursAnew();
        onlyDoorsAndColoursAnew();
        numbersBeginWithZero();
        atLeastOneStatement();
        whatLacks();
        whatDoesNotFit();
        firstKindIsFirst();
        greatestPlaces();
        placeOfTheStatement();
        behindAllAhead();
        behindFormerHouses();
        withOneNothing();
        nothingIsCounted();
        end("every fault is told");
    }

    /** What a text answers to a new object. */
    private static void told(String text, int want) {
        due("house of '" + text + "'", tell(new TurnsMultiples(), text), want);
    }

    /** What a text answers behind houses that are without fault. */
    private static void toldBehind(String ahead, String text, int want) {
        due("house of '" + text + "' behind " + ahead, tell(housed(ahead), text), want);
    }

    private static void letterValues() {
        sentence("Promise 2: a letter (0 .. 255) comes: -4; -6 (255)");
        int[] below = {-1, -2, -256, Integer.MIN_VALUE};
        int[] within = {0, 1, 127, 128, 254, 255};
        int[] above = {256, 257, 65536 + 'n', Integer.MAX_VALUE};
        TurnsMultiples x = new TurnsMultiples();
        for (int c : below) {
            due("letter(" + c + ")", x.letter(c), -4);
        }
        for (int c : above) {
            due("letter(" + c + ")", x.letter(c), -6);
        }
        due("letters so far", x.count(6), 0);
        for (int i = 0; i < within.length; i++) {
            due("letter(" + within[i] + ")", x.letter(within[i]), i + 1);
        }
        refused(x, 0, 0, 0, below.length, 0, above.length);
    }

    private static void letterRoom() {
        sentence("Promise 2: -6 (64, too); told in letters, one by one (64 at most)");
        TurnsMultiples x = new TurnsMultiples();
        String text = "n12;".repeat(16);
        for (int i = 0; i < 64; i++) {
            due("letter " + (i + 1), x.letter(text.charAt(i)), i + 1);
        }
        due("the 65th", x.letter(';'), -6);
        due("the 65th, 0", x.letter(0), -6);
        due("the 65th, 255", x.letter(255), -6);
        due("the 65th, 256", x.letter(256), -6);
        due("the 65th, -1", x.letter(-1), -4);
        due("letters", x.count(6), 64);
        refused(x, 0, 0, 0, 1, 0, 4);
        due("all 64 are read", x.house(), 16);
        due("room again", x.letter('n'), 1);
        told("n1;".repeat(21), 21);
    }

    private static void lettersAreNoMore() {
        sentence("Promise 3: the letters become a HOUSE, and are no more (with a FAULT neither)");
        TurnsMultiples x = new TurnsMultiples();
        due("without fault", tell(x, "n5;"), 1);
        due("letters", x.count(6), 0);
        due("none are left", x.house(), -1000);
        due("fault of kind 1", tell(x, "n5"), -1002);
        due("letters", x.count(6), 0);
        due("the next are read by themselves", tell(x, ";"), -1000);
        due("fault of kind 2", tell(x, "n0;"), -2000);
        due("letters", x.count(6), 0);
        due("without fault again", tell(x, "k3;"), 1);
    }

    private static void doorsTold() {
        sentence("DOORS have numbers 1 .. n (1 .. 12); \"n\" how many DOORS (1 or 2 digits)");
        due("doors at first", new TurnsMultiples().count(0), 6);
        int[] numbers = {1, 2, 9, 10, 11, 12};
        for (int n : numbers) {
            TurnsMultiples x = housed("n" + n + ";");
            due("doors behind n" + n, x.count(0), n);
            due("the last door", x.door(n, 0), 0);
            due("one more", x.door(n + 1, 0), -1);
        }
        int[] others = {0, 13, 14, 20, 99};
        for (int n : others) {
            TurnsMultiples x = new TurnsMultiples();
            due("n" + n, tell(x, "n" + n + ";"), -2000);
            due("doors stay", x.count(0), 6);
        }
        told("n;", -1001);
        told("n1;", 1);
        told("n01;", 1);
        told("n001;", -1003);
        told("n012;", -1003);
        told("n123;", -1003);
    }

    private static void coloursTold() {
        sentence("COLOURS 2 or 3; 2 at first; \"k\" COLOURS (a digit)");
        due("colours at first", new TurnsMultiples().count(1), 2);
        for (int k = 0; k <= 9; k++) {
            TurnsMultiples x = housed("k3;");
            boolean fits = k == 2 || k == 3;
            due("k" + k, tell(x, "k" + k + ";"), fits ? 1 : -2000);
            due("colours behind k" + k, x.count(1), fits ? k : 3);
        }
        told("k;", -1001);
        told("k2;", 1);
        told("k02;", -1002);
        told("k22;", -1002);
    }

    private static void kindsTold() {
        sentence("\"p\" a letter of a KIND");
        String kinds = "mdbexu";
        for (int c = 0; c <= 255; c++) {
            TurnsMultiples x = new TurnsMultiples();
            int kind = kinds.indexOf(c);
            due("p with letter " + c, tell(x, "p" + (char) c + "1,1,1;"), kind >= 0 ? 1 : -1001);
            due("people", x.count(2), kind >= 0 ? 1 : 0);
            due("kind", x.person(0, 0), kind);
        }
        told("p1,1,1;", -1001);
        told("p;", -1001);
        told("pmm1,1,1;", -1002);
    }

    private static void personNumbersTold() {
        sentence("A \",\" B (1 or 2 digits each)");
        told("pm,1,1;", -1002);
        told("pm1,1,1;", 1);
        told("pm12,1,1;", 1);
        told("pm012,1,1;", -1004);
        told("pm123,1,1;", -1004);
        told("pm1,,1;", -1004);
        told("pm1,12,1;", 1);
        told("pm1,012,1;", -1006);
        told("pm1,123,1;", -1006);
        told("pm1;", -1003);
        told("pm1,1;", -1005);
        told("pm11,1,1,;", -1008);
        told("pm1.1,1;", -1003);
    }

    private static void personNumbersInRange() {
        sentence("A, B 1 .. 12");
        int[] within = {1, 2, 11, 12};
        int[] outside = {0, 13, 14, 99};
        for (int kind = 0; kind < 6; kind++) {
            char letter = "mdbexu".charAt(kind);
            for (int number : within) {
                TurnsMultiples x = housed("n1;p" + letter + number + ",3,0;p" + letter + "3," + number + ",0;");
                due("A", x.person(0, 1), number);
                due("B", x.person(0, 2), 3);
                due("A of the second", x.person(1, 1), 3);
                due("B of the second", x.person(1, 2), number);
            }
            for (int number : outside) {
                told("p" + letter + number + ",1,0;", -2000);
                told("p" + letter + "1," + number + ",0;", -2000);
            }
        }
        told("pm00,1,0;", -2000);
        told("pm1,00,0;", -2000);
    }

    private static void costTold() {
        sentence("\",\" COST (a digit)");
        for (int cost = 0; cost <= 9; cost++) {
            due("cost", housed("pm1,1," + cost + ";").person(0, 3), cost);
        }
        told("pm1,1,;", -1006);
        told("pm1,1,00;", -1007);
        told("pm1,1,10;", -1007);
        told("pm1,1,a;", -1006);
    }

    private static void peopleRoom() {
        sentence("a PERSON more (7 at most); no room");
        String one = "pm1,1,1;";
        for (int people = 1; people <= 7; people++) {
            due("people", housed(one.repeat(people)).count(2), people);
        }
        TurnsMultiples x = new TurnsMultiples();
        due("eight in one text", tell(x, one.repeat(8)), -2056);
        due("people", x.count(2), 0);
        retell(x, one.repeat(6));
        due("two more than six", tell(x, one.repeat(2)), -2008);
        due("people", x.count(2), 6);
        due("the seventh", tell(x, one), 1);
        due("the eighth", tell(x, one), -2000);
        due("the eighth, behind another", tell(x, "n1;" + one), -2003);
        due("people", x.count(2), 7);
        due("doors", x.count(0), 6);
        due("without a person more", tell(x, "n1;"), 1);
    }

    private static void stuckTold() {
        sentence("\"s\" a DOOR (1 or 2 digits)");
        int[] numbers = {1, 2, 6, 11, 12};
        for (int n : numbers) {
            String house = "n" + n + ";";
            toldBehind(house, "s0;", -2000);
            toldBehind(house, "s00;", -2000);
            toldBehind(house, "s" + (n + 1) + ";", -2000);
            toldBehind(house, "s99;", -2000);
            TurnsMultiples x = housed(house + "s1;");
            due("the first is stuck", x.door(1, 2), 1);
            due("the last is stuck", x.door(n, 2), n == 1 ? 1 : 0);
            retell(x, "n" + n + ";s" + n + ";");
            due("the last is stuck", x.door(n, 2), 1);
            due("stuck ones", x.count(4), 1);
        }
        told("s;", -1001);
        told("s6;", 1);
        told("s06;", 1);
        told("s006;", -1003);
        told("s123;", -1003);
    }

    private static void stuckToldAgain() {
        sentence("STUCK (told again: not)");
        TurnsMultiples x = housed("s2;");
        due("once", x.door(2, 2), 1);
        retell(x, "s2;");
        due("twice", x.door(2, 2), 0);
        retell(x, "s02;");
        due("three times", x.door(2, 2), 1);
        retell(x, "s2;s02;s1;");
        due("twice more in one text", x.door(2, 2), 1);
        due("another", x.door(1, 2), 1);
        due("stuck ones", x.count(4), 2);
    }

    private static void wishLength() {
        sentence("\"w\" digits, one for each DOOR; \"w\", \"h\" have 1 .. 12 digits");
        lengths('w', '9');
        told("w;", -1001);
        told("w", -1001);
        toldBehind("n12;", "w999999999999;", 1);
        toldBehind("n12;", "w9999999999999;", -1013);
        toldBehind("n12;", "w99999999999;", -2000);
        toldBehind("n1;", "w;", -1001);
    }

    private static void standLength() {
        sentence("\"h\" digits, one for each DOOR; \"w\", \"h\" have 1 .. 12 digits");
        lengths('h', '0');
        told("h;", -1001);
        told("h", -1001);
        toldBehind("n12;", "h000000000000;", 1);
        toldBehind("n12;", "h0000000000000;", -1013);
        toldBehind("n12;", "h00000000000;", -2000);
        toldBehind("n1;", "h;", -1001);
    }

    private static void lengths(char head, char digit) {
        for (int n = 1; n <= 12; n++) {
            for (int digits = 1; digits <= 13; digits++) {
                String text = head + String.valueOf(digit).repeat(digits) + ";";
                toldBehind("n" + n + ";", text, digits == n ? 1 : digits == 13 ? -1013 : -2000);
            }
        }
    }

    private static void wishDigits() {
        sentence("the WISH (9: any; all 9 at first)");
        TurnsMultiples x = new TurnsMultiples();
        for (int door = 1; door <= 6; door++) {
            due("wish at first " + door, x.door(door, 1), 9);
        }
        for (int colours = 2; colours <= 3; colours++) {
            for (int digit = 0; digit <= 9; digit++) {
                boolean fits = digit < colours || digit == 9;
                TurnsMultiples y = housed("n3;k" + colours + ";w010;");
                due("the first " + digit, tell(y, "w" + digit + "00;"), fits ? 1 : -2000);
                due("its wish", y.door(1, 1), fits ? digit : 0);
                due("the last " + digit, tell(y, "w11" + digit + ";"), fits ? 1 : -2000);
                due("its wish", y.door(3, 1), fits ? digit : 0);
            }
        }
    }

    private static void standDigits() {
        sentence("each stands at 0 (shut), 1 or, if there are three COLOURS, 2; \"h\": how they stand");
        for (int colours = 2; colours <= 3; colours++) {
            for (int digit = 0; digit <= 9; digit++) {
                boolean fits = digit < colours;
                TurnsMultiples y = housed("n3;k" + colours + ";h010;");
                due("the first " + digit, tell(y, "h" + digit + "00;"), fits ? 1 : -2000);
                due("its way", y.door(1, 0), fits ? digit : 0);
                due("the last " + digit, tell(y, "h11" + digit + ";"), fits ? 1 : -2000);
                due("its way", y.door(3, 0), fits ? digit : 0);
            }
        }
    }

    private static void doorsAnew() {
        sentence("\"n\": all DOORS stand at 0 then, none is STUCK, the WISH is any");
        int[] numbers = {1, 2, 3, 12};
        for (int n : numbers) {
            anew("n" + n + ";", n, 3);
        }
    }

    private static void coloursAnew() {
        sentence("\"k\": all DOORS stand at 0 then, none is STUCK, the WISH is any");
        anew("k2;", 2, 2);
        anew("k3;", 2, 3);
    }

    private static void anew(String text, int doors, int colours) {
        TurnsMultiples x = housed("n2;k3;pm1,1,3;h21;w12;s1;s2;");
        x.go(0);
        logs(x, 0, 9);
        retell(x, text);
        due("doors", x.count(0), doors);
        due("colours", x.count(1), colours);
        due("people stay", x.count(2), 1);
        due("doors not at 0", x.count(3), 0);
        due("stuck ones", x.count(4), 0);
        due("the log stays", x.count(5), 2);
        due("goings stay", x.count(7), 1);
        due("state", x.state(), 0);
        due("the wish is so", x.wished(), 1);
        for (int door = 1; door <= doors; door++) {
            due("way " + door, x.door(door, 0), 0);
            due("wish " + door, x.door(door, 1), 9);
            due("stuck " + door, x.door(door, 2), 0);
        }
    }

    private static void onlyDoorsAndColoursAnew() {
        sentence("\"n\", \"k\": all DOORS stand at 0 then (and behind no other STATEMENT)");
        TurnsMultiples x = housed("n2;k3;h21;w12;s1;pm1,1,3;");
        due("h, w, s stay behind p", x.state() * 100 + x.door(2, 1) * 10 + x.door(1, 2), 521);
        retell(x, "s1;s2;");
        due("h and w stay behind s", x.state() * 100 + x.door(1, 1) * 10 + x.door(2, 2), 511);
        retell(x, "w00;");
        due("h and s stay behind w", x.state() * 10 + x.door(2, 2), 51);
        retell(x, "h22;");
        due("w and s stay behind h", x.door(1, 1) * 10 + x.door(2, 2), 1);
        due("a stuck one stands as it is told", x.state(), 8);
        retell(x, "n2;w10;");
        due("a wish behind n", x.door(1, 1), 1);
        retell(x, "h12;k3;");
        due("a stand ahead of k", x.state(), 0);
    }

    private static void numbersBeginWithZero() {
        sentence("Numbers may begin with 0");
        TurnsMultiples x = housed("n09;pu02,08,0;pu10,01,0;s01;s09;");
        due("doors", x.count(0), 9);
        due("A", x.person(0, 1), 2);
        due("B", x.person(0, 2), 8);
        due("A of the second", x.person(1, 1), 10);
        due("B of the second", x.person(1, 2), 1);
        due("stuck 1", x.door(1, 2), 1);
        due("stuck 9", x.door(9, 2), 1);
        told("n00;", -2000);
        told("n01;", 1);
        told("pm01,01,1;", 1);
        told("pm00,01,1;", -2000);
        told("pm01,00,1;", -2000);
        told("s00;", -2000);
        told("s01;", 1);
    }

    private static void atLeastOneStatement() {
        sentence("At least one STATEMENT");
        told("", -1000);
        told(";", -1000);
        told("n6;", 1);
        told("n6;k2;", 2);
        told("n6;;", -1003);
        told("s1;".repeat(21), 21);
    }

    private static void whatLacks() {
        sentence("kind 1 the place of the first letter with which no HOUSE can go on (the end, if something lacks)");
        int statements = 0;
        for (int i = 1; i <= LONG.length(); i++) {
            if (LONG.charAt(i - 1) == ';') {
                statements++;
                told(LONG.substring(0, i), statements);
            } else {
                told(LONG.substring(0, i), -1000 - i);
            }
        }
        due("statements of the whole", statements, 6);
    }

    private static void whatDoesNotFit() {
        sentence("kind 1 the place of the first letter with which no HOUSE can go on");
        int[] signs = {0, ' ', '/', ':', 'z', 'N', 255};
        for (int i = 0; i < LONG.length(); i++) {
            for (int sign : signs) {
                told(LONG.substring(0, i) + (char) sign + LONG.substring(i + 1), -1000 - i);
            }
        }
        for (int c = 0; c <= 255; c++) {
            boolean head = "nkpswh".indexOf(c) >= 0;
            told(String.valueOf((char) c), head ? -1001 : -1000);
            boolean second = c >= '0' && c <= '9';
            told("n" + (char) c, second ? -1002 : -1001);
            told("n1" + (char) c, second ? -1003 : c == ';' ? 1 : -1002);
            told("pm1" + (char) c, second || c == ',' ? -1004 : -1003);
        }
    }

    private static void firstKindIsFirst() {
        sentence("FAULT: kind 1 ..; else kind 2");
        told("n0;", -2000);
        told("n0;k", -1004);
        told("n0;z", -1003);
        told("n0", -1002);
        told("n13;s7;w1;h;", -1011);
        told("n13;s7;w1;h0;", -2000);
        told("n6;k9;k22;", -1008);
        told("n6;k9;k2;", -2003);
        told("n12;".repeat(15) + "n0;", -2060);
        told("n0;".repeat(21) + "n", -1064);
    }

    private static void greatestPlaces() {
        sentence("-1000 less the place; -2000 less the place");
        String full = "n1;".repeat(21);
        told(full + "x", -1063);
        told(full + "n", -1064);
        told("n12;".repeat(15) + "n12", -1063);
        told("n12;".repeat(15) + "n12,", -1063);
        told("n12;".repeat(15) + "n13;", -2060);
        told("n1;".repeat(20) + "k1;", -2060);
        told("n13;" + "n12;".repeat(15), -2000);
        told("n12;".repeat(15) + "w1;", -2060);
    }

    private static void placeOfTheStatement() {
        sentence("kind 2 the place of the first letter of the first STATEMENT that is not as it must be");
        told("n06;k2;n0;", -2007);
        told("k3;pm12,12,9;pm13,1,1;", -2013);
        told("k3;pm12,12,9;pm1,13,1;", -2013);
        told("s1;s02;s7;s8;", -2007);
        told("w000000;h00000;", -2008);
        told("w000000;h000002;", -2008);
        told("h000000;w00000;", -2008);
        told("h000000;w000002;", -2008);
        told("n0;k1;", -2000);
        told("k2;k1;n0;", -2003);
        told("n1;k2;s1;w0;h0;pm1,1,1;n13;", -2023);
    }

    private static void behindAllAhead() {
        sentence("the first STATEMENT that, behind all ahead of it in the text, is not as it must be");
        told("n7;s7;", 2);
        told("n6;s7;", -2003);
        told("s7;n7;", -2000);
        told("n5;s6;", -2003);
        told("s6;n5;", 2);
        told("k3;h200000;", 2);
        told("h200000;k3;", -2000);
        told("k3;w200000;k2;w200000;", -2014);
        told("n2;w11;h11;", 3);
        told("w11;n2;", -2000);
        told("n2;w111111;", -2003);
        told("h11;n2;", -2000);
        told("n12;s12;n11;s12;", -2012);
        told("pm1,1,1;".repeat(7) + "n6;", 8);
        TurnsMultiples x = housed("pm1,1,1;".repeat(6));
        due("the seventh and the eighth", tell(x, "n6;pm1,1,1;k3;pm1,1,1;"), -2014);
    }

    private static void behindFormerHouses() {
        sentence("behind all ahead of it: former houses too");
        toldBehind("n7;", "s7;", 1);
        toldBehind("n5;", "s6;", -2000);
        toldBehind("k3;", "h200000;w200000;", 2);
        toldBehind("k2;", "h200000;", -2000);
        toldBehind("k2;", "w200000;", -2000);
        toldBehind("n2;", "w01;h10;", 2);
        toldBehind("n2;", "w010101;", -2000);
        TurnsMultiples x = housed("n2;");
        due("at fault", tell(x, "n3;h0000;"), -2003);
        due("the house at fault is not ahead", tell(x, "h000;"), -2000);
        due("that without fault is", tell(x, "h00;"), 1);
    }

    private static void withOneNothing() {
        sentence("Without FAULT all of it comes, with one nothing");
        String[] faults = {"n3;k2;pm2,2,2;s1;w000;h111;n0;", "n3;k2;pm2,2,2;s1;w000;h111;x", "pd2,2,2;h222;",
            "h00;k", "s2;s3;", "n4;k3;n4;n13;", "w00;w111;"};
        int[] dues = {-2027, -1027, -2008, -1005, -2003, -2009, -2004};
        TurnsMultiples x = housed("n2;k3;pu1,2,7;w12;h21;s2;");
        for (int i = 0; i < faults.length; i++) {
            due("house of " + faults[i], tell(x, faults[i]), dues[i]);
            due("doors", x.count(0), 2);
            due("colours", x.count(1), 3);
            due("people", x.count(2), 1);
            due("kind", x.person(0, 0), 5);
            due("state", x.state(), 5);
            due("wish of 1", x.door(1, 1), 1);
            due("wish of 2", x.door(2, 1), 2);
            due("stuck 1", x.door(1, 2), 0);
            due("stuck 2", x.door(2, 2), 1);
        }
    }

    private static void nothingIsCounted() {
        sentence("Promise 3: the FAULT (nothing is counted)");
        TurnsMultiples x = housed("n2;");
        String[] faults = {"", "x", "n", "n0;", "n13;", "s3;", "pm1,1,1;pm0,1,1;", "w000;"};
        int[] dues = {-1000, -1000, -1001, -2000, -2000, -2000, -2008, -2000};
        for (int i = 0; i < faults.length; i++) {
            due("house of " + faults[i], tell(x, faults[i]), dues[i]);
        }
        refused(x);
        due("goings", x.count(7), 0);
    }
}
