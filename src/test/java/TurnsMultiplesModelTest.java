import java.util.ArrayList;
import java.util.HashMap;
import java.util.List;
import java.util.Map;
import java.util.Random;
import java.util.TreeSet;

/** Many random runs of calls, each answer compared with that of a slow and simple model. */
public final class TurnsMultiplesModelTest {
    private static int wrong = 0;

    public static void main(String[] args) {
        for (int seed = 1; seed <= 400 && wrong == 0; seed++) {
            run(new Random(seed), seed);
        }
        for (int seed = 1001; seed <= 3000 && wrong == 0; seed++) {
            crowd(new Random(seed), seed);
        }
        System.out.println(wrong == 0 ? "all runs are as the model's" : wrong + " answers are not as the model's");
        if (wrong != 0) {
            System.exit(1);
        }
    }

    private static void run(Random random, int seed) {
        TurnsMultiples x = new TurnsMultiples();
        Model model = new Model();
        List<String> calls = new ArrayList<>();
        while (calls.size() < 440) {
            if (random.nextInt(8) == 0) {
                String text = Texts.some(random, model);
                for (int i = 0; i < text.length() && i < 64; i++) {
                    compare(x, model, 30, text.charAt(i), 0, 0, calls, seed);
                }
                compare(x, model, 31, 0, 0, 0, calls, seed);
            } else {
                int call = random.nextInt(30);
                int first = argument(random, call, model);
                int second = call == 9 && random.nextInt(4) != 0
                        ? random.nextInt(model.doors) + 1 : random.nextInt(7) - 1;
                compare(x, model, call, first, call == 28 ? random.nextInt() : second, random.nextInt(20) / 9, calls,
                        seed);
            }
            compare(x, model, 7, 0, 0, 0, calls, seed);
        }
    }

    /** Few doors, many people: what needs many goings comes up, and images are gone on from. */
    private static void crowd(Random random, int seed) {
        TurnsMultiples x = new TurnsMultiples();
        Model model = new Model();
        List<String> calls = new ArrayList<>();
        int doors = 1 + random.nextInt(5);
        StringBuilder text = new StringBuilder("n" + doors + ";k" + (random.nextInt(3) == 0 ? 2 : 3) + ";");
        for (int people = 1 + random.nextInt(6); people > 0; people--) {
            text.append('p').append("mdbexu".charAt(random.nextInt(6))).append(1 + random.nextInt(doors)).append(',')
                    .append(1 + random.nextInt(doors)).append(',').append(random.nextInt(10)).append(';');
        }
        tell(x, model, text.toString(), calls, seed);
        int[] asked = {10, 11, 12, 14, 15, 16, 17, 24};
        while (calls.size() < 200) {
            tell(x, model, Texts.digits(random, 'w', doors, model.colours), calls, seed);
            if (random.nextInt(4) == 0) {
                tell(x, model, Texts.digits(random, 'h', doors, model.colours), calls, seed);
            }
            compare(x, model, 27, 0, 0, 0, calls, seed);
            compare(x, model, 27, 0, 1, 1, calls, seed);
            compare(x, model, asked[random.nextInt(asked.length)], 0, 0, 0, calls, seed);
            for (int i = random.nextInt(4); i > 0; i--) {
                compare(x, model, 21, random.nextInt(4) == 0 ? 9 : random.nextInt(7), 0, 0, calls, seed);
                compare(x, model, 29, random.nextInt(30) / 4, 0, 0, calls, seed);
                compare(x, model, 23, 1 + random.nextInt(doors), 0, 0, calls, seed);
                compare(x, model, 25, 1 + random.nextInt(doors), 0, 0, calls, seed);
                compare(x, model, 26, 0, 0, 0, calls, seed);
            }
            compare(x, model, 2, random.nextInt(7), 0, 0, calls, seed);
        }
    }

    private static void tell(TurnsMultiples x, Model model, String text, List<String> calls, int seed) {
        for (int i = 0; i < text.length(); i++) {
            compare(x, model, 30, text.charAt(i), 0, 0, calls, seed);
        }
        compare(x, model, 31, 0, 0, 0, calls, seed);
    }

    private static int argument(Random random, int call, Model model) {
        if (random.nextInt(25) == 0) {
            int[] odd = {-1, 0, 1, 2147483647, -2147483648, 1000000000, 1000000001, 2000, 2001, 40, 41, 99, 100, 256};
            return odd[random.nextInt(odd.length)];
        }
        switch (call) {
            case 9:
                return random.nextInt((int) (Math.pow(model.colours, model.doors) * 1.1));
            case 18:
                return random.nextInt(random.nextBoolean() ? 3000 : 1000000);
            case 19:
                return random.nextInt(43);
            case 20:
                return random.nextInt(2100);
            case 21:
                return random.nextInt(6) == 0 ? 9 : random.nextInt(model.goers.size() + 1);
            case 28:
                return random.nextInt(102);
            case 29:
                return random.nextInt(20) - 1;
            default:
                return random.nextInt(14) - 1;
        }
    }

    private static void compare(TurnsMultiples x, Model m, int call, int a, int b, int c, List<String> calls, int seed) {
        int got;
        int want;
        switch (call) {
            case 0: got = x.door(a, b); want = m.door(a, b); break;
            case 1: got = x.person(a, b); want = m.person(a, b); break;
            case 2: case 3: case 4: got = x.go(a); want = m.go(a); break;
            case 5: case 6: got = x.turn(a); want = m.turn(a); break;
            case 7: got = x.state(); want = m.state(); break;
            case 8: got = x.wished(); want = m.wished(); break;
            case 9: got = x.way(a, b, c); want = m.way(a, b, c); break;
            case 10: got = x.can(); want = m.can(); break;
            case 11: got = x.fewest(); want = m.fewest(); break;
            case 12: got = x.cheapest(); want = m.cheapest(); break;
            case 13: got = x.how(a); want = m.how(a); break;
            case 14: got = x.nothing(); want = m.nothing(); break;
            case 15: got = x.states(); want = m.states(); break;
            case 16: got = x.been(); want = m.been(); break;
            case 17: got = x.sure(); want = m.sure(); break;
            case 18: got = x.forEver(a); want = m.forEver(a); break;
            case 19: got = x.nth(a); want = m.nth(a); break;
            case 20: got = x.open(a); want = m.open(a); break;
            case 21: case 22: got = x.log(a); want = m.log(a); break;
            case 23: got = x.order(a); want = m.order(a); break;
            case 24: got = x.fills(); want = m.fills(); break;
            case 25: got = x.run(a); want = m.run(a); break;
            case 26: got = x.judge(); want = m.judge(); break;
            case 27: got = c == 0 ? x.match() : x.keys(b); want = c == 0 ? m.match() : m.keys(b); break;
            case 28: got = x.seeds(a, b); want = m.seeds(a, b); break;
            case 29: got = a == 0 ? x.clear() : a < 3 ? x.image() : a == 3 ? x.on() : x.count(a);
                want = a == 0 ? m.clear() : a < 3 ? m.image() : a == 3 ? m.on() : m.count(a); break;
            case 30: got = x.letter(a); want = m.letter(a); break;
            default: got = x.house(); want = m.house(); break;
        }
        calls.add(call + "(" + a + ", " + b + ", " + c + ") " + got);
        if (got != want) {
            wrong++;
            System.out.println("seed " + seed + ": call " + calls.size() + ", number " + call + " of (" + a + ", " + b
                    + ", " + c + ") answered " + got + ", the model's is " + want);
        }
    }

    /** Texts of houses: most without fault. */
    private static final class Texts {
        static String some(Random random, Model model) {
            StringBuilder text = new StringBuilder();
            int doors = model.doors;
            int colours = model.colours;
            int statements = 1 + random.nextInt(4);
            for (int i = 0; i < statements; i++) {
                int which = random.nextInt(12);
                if (which == 0) {
                    doors = random.nextInt(20) == 0 ? random.nextInt(100) : 1 + random.nextInt(random.nextBoolean() ? 5 : 12);
                    text.append('n').append(number(random, doors)).append(';');
                } else if (which == 1) {
                    colours = random.nextInt(20) == 0 ? random.nextInt(10) : 2 + random.nextInt(2);
                    text.append('k').append(colours).append(';');
                } else if (which < 6 && model.goers.size() < 6) {
                    int far = random.nextInt(25) == 0 ? 14 : Math.min(12, doors + 1);
                    text.append('p').append("mdbexu".charAt(random.nextInt(6)))
                            .append(number(random, random.nextInt(Math.max(1, far)) + 1)).append(',')
                            .append(number(random, random.nextInt(Math.max(1, far)) + 1)).append(',')
                            .append(random.nextInt(10)).append(';');
                } else if (which < 8) {
                    text.append('s').append(number(random, random.nextInt(Math.max(1, doors)) + 1)).append(';');
                } else {
                    boolean wish = which < 10;
                    text.append(wish ? 'w' : 'h');
                    int many = random.nextInt(25) == 0 ? random.nextInt(14) : doors;
                    for (int door = 0; door < many; door++) {
                        boolean any = wish && random.nextInt(3) == 0;
                        text.append(any ? 9 : random.nextInt(random.nextInt(90) == 0 ? 10 : Math.max(1, colours)));
                    }
                    text.append(';');
                }
            }
            if (random.nextInt(12) == 0) {
                int at = random.nextInt(text.length());
                String signs = "nkpswhmdbexu0123456789,;; q";
                char sign = signs.charAt(random.nextInt(signs.length()));
                int what = random.nextInt(3);
                if (what == 0) {
                    text.setCharAt(at, sign);
                } else if (what == 1) {
                    text.insert(at, sign);
                } else {
                    text.deleteCharAt(at);
                }
            }
            return text.toString();
        }

        static String digits(Random random, char head, int doors, int colours) {
            StringBuilder text = new StringBuilder().append(head);
            for (int door = 0; door < doors; door++) {
                text.append(head == 'w' && random.nextInt(3) == 0 ? 9 : random.nextInt(colours));
            }
            return text.append(';').toString();
        }

        static String number(Random random, int number) {
            return number < 10 && random.nextInt(4) == 0 ? "0" + number : "" + number;
        }
    }

    /** The document's words, taken one by one, with no thought of speed. */
    private static final class Model {
        int doors = 6;
        int colours = 2;
        List<int[]> goers = new ArrayList<>();
        int[] stuck = new int[13];
        int[] wish = wishAny();
        int[] ways = new int[13];
        int goings = 0;
        List<Integer> logged = new ArrayList<>();
        Model kept = null;
        String letters = "";
        int[] refusals = new int[7];

        static int[] wishAny() {
            int[] wish = new int[13];
            java.util.Arrays.fill(wish, 9);
            return wish;
        }

        void take(Model other) {
            doors = other.doors;
            colours = other.colours;
            goers = new ArrayList<>(other.goers);
            stuck = other.stuck.clone();
            wish = other.wish.clone();
            ways = other.ways.clone();
            goings = other.goings;
            logged = new ArrayList<>(other.logged);
        }

        int refuse(int number) {
            refusals[number]++;
            return -number;
        }

        boolean isDoor(int door) {
            return door >= 1 && door <= doors;
        }

        boolean isPerson(int person) {
            return person >= 0 && person < goers.size();
        }

        int letter(int c) {
            if (c < 0) {
                return refuse(4);
            }
            if (c > 255 || letters.length() == 64) {
                return refuse(6);
            }
            letters += (char) c;
            return letters.length();
        }

        /** Whether the text can go on to be some statements: it is tried with all that could follow. */
        static boolean canGoOn(String text) {
            String[] whole = {"n[0-9][0-9]?;", "k[0-9];", "s[0-9][0-9]?;", "[wh][0-9]{1,12};",
                "p[mdbexu][0-9][0-9]?,[0-9][0-9]?,[0-9];"};
            String any = "(" + String.join("|", whole) + ")*";
            String[] ends = {"", ";", "0;", ",0;", "0,0;", ",0,0;", "0,0,0;", "m0,0,0;"};
            for (String end : ends) {
                if ((text + end).matches(any)) {
                    return true;
                }
            }
            return false;
        }

        int house() {
            String text = letters;
            letters = "";
            for (int i = 0; i < text.length(); i++) {
                if (!canGoOn(text.substring(0, i + 1))) {
                    return -1000 - i;
                }
            }
            if (!text.endsWith(";")) {
                return -1000 - text.length();
            }
            Model trial = new Model();
            trial.take(this);
            int place = 0;
            int many = 0;
            for (String statement : text.split(";")) {
                if (!trial.obey(statement)) {
                    return -2000 - place;
                }
                place += statement.length() + 1;
                many++;
            }
            take(trial);
            return many;
        }

        boolean obey(String statement) {
            char head = statement.charAt(0);
            String rest = statement.substring(1);
            if (head == 'p') {
                String[] numbers = rest.substring(1).split(",");
                int a = Integer.parseInt(numbers[0]);
                int b = Integer.parseInt(numbers[1]);
                goers.add(new int[] {"mdbexu".indexOf(rest.charAt(0)), a, b, Integer.parseInt(numbers[2])});
                return a >= 1 && a <= 12 && b >= 1 && b <= 12 && goers.size() <= 7;
            }
            if (head == 's') {
                int door = Integer.parseInt(rest);
                if (!isDoor(door)) {
                    return false;
                }
                stuck[door] = 1 - stuck[door];
                return true;
            }
            if (head == 'n' || head == 'k') {
                int number = Integer.parseInt(rest);
                if (head == 'n') {
                    doors = number;
                } else {
                    colours = number;
                }
                ways = new int[13];
                stuck = new int[13];
                wish = wishAny();
                return doors >= 1 && doors <= 12 && (colours == 2 || colours == 3);
            }
            if (rest.length() != doors) {
                return false;
            }
            int[] row = head == 'w' ? wish : ways;
            for (int door = 1; door <= doors; door++) {
                int digit = rest.charAt(door - 1) - '0';
                if (digit >= colours && !(digit == 9 && head == 'w')) {
                    return false;
                }
                row[door] = digit;
            }
            return true;
        }

        boolean turns(int person, int door) {
            int[] goer = goers.get(person);
            boolean a = door % goer[1] == 0;
            boolean b = door % goer[2] == 0;
            boolean[] byKind = {a, goer[1] % door == 0, a && b, a || b, (a || b) && !(a && b),
                goer[1] <= door && door <= goer[2]};
            return byKind[goer[0]] && stuck[door] == 0;
        }

        int[] gone(int[] from, int person, int times) {
            int[] then = from.clone();
            for (int door = 1; door <= doors; door++) {
                if (turns(person, door)) {
                    then[door] = (then[door] + times) % colours;
                }
            }
            return then;
        }

        int number(int[] row) {
            int number = 0;
            for (int door = 1; door <= doors; door++) {
                number += row[door] * (int) Math.round(Math.pow(colours, door - 1));
            }
            return number;
        }

        boolean isWish(int[] row) {
            for (int door = 1; door <= doors; door++) {
                if (wish[door] != 9 && wish[door] != row[door]) {
                    return false;
                }
            }
            return true;
        }

        int door(int door, int what) {
            if (!isDoor(door)) {
                return refuse(1);
            }
            if (what < 0 || what > 2) {
                return refuse(2);
            }
            return new int[] {ways[door], wish[door], stuck[door]}[what];
        }

        int person(int person, int what) {
            if (!isPerson(person)) {
                return refuse(1);
            }
            if (what < 0 || what > 4) {
                return refuse(2);
            }
            int bits = 0;
            for (int door = 1; door <= doors; door++) {
                bits += turns(person, door) ? 1 << door >> 1 : 0;
            }
            return what == 4 ? bits : goers.get(person)[what];
        }

        int go(int person) {
            if (!isPerson(person)) {
                return refuse(1);
            }
            ways = gone(ways, person, 1);
            goings++;
            return Integer.bitCount(person(person, 4));
        }

        int turn(int door) {
            if (!isDoor(door)) {
                return refuse(1);
            }
            if (stuck[door] == 1) {
                return refuse(3);
            }
            ways[door] = (ways[door] + 1) % colours;
            return ways[door];
        }

        int state() {
            return number(ways);
        }

        int wished() {
            return isWish(ways) ? 1 : 0;
        }

        /** Tries how often each number goes: by multiples from the first, by divisors from the last. */
        int way(int state, int number, int what) {
            if (state < 0 || state >= Math.round(Math.pow(colours, doors)) || !isDoor(number)) {
                return refuse(1);
            }
            if (what != 0 && what != 1) {
                return refuse(2);
            }
            int[] left = new int[13];
            for (int door = 1, rest = state; door <= doors; door++, rest /= colours) {
                left[door] = rest % colours;
            }
            int[] times = new int[13];
            for (int i = 1; i <= doors; i++) {
                int goer = what == 0 ? i : doors + 1 - i;
                times[goer] = left[goer];
                for (int door = 1; door <= doors; door++) {
                    if (what == 0 ? door % goer == 0 : goer % door == 0) {
                        left[door] = (left[door] + 3 * colours - times[goer]) % colours;
                    }
                }
            }
            return times[number];
        }

        /** All rows, in the order by people, each with its end behind its digits. */
        List<int[]> rows(int person, int[] row, int[] at) {
            List<int[]> all = new ArrayList<>();
            if (person == goers.size()) {
                int[] both = new int[20];
                System.arraycopy(row, 0, both, 0, 7);
                System.arraycopy(at, 0, both, 7, 13);
                all.add(both);
                return all;
            }
            for (int times = 0; times < colours; times++) {
                row[person] = times;
                all.addAll(rows(person + 1, row, gone(at, person, times)));
            }
            row[person] = 0;
            return all;
        }

        List<int[]> rows() {
            return rows(0, new int[7], ways);
        }

        static int[] end(int[] row) {
            return java.util.Arrays.copyOfRange(row, 7, 20);
        }

        static int sum(int[] row) {
            int sum = 0;
            for (int i = 0; i < 7; i++) {
                sum += row[i];
            }
            return sum;
        }

        List<int[]> bringing() {
            List<int[]> found = new ArrayList<>();
            for (int[] row : rows()) {
                if (isWish(end(row))) {
                    found.add(row);
                }
            }
            return found;
        }

        int can() {
            return bringing().size();
        }

        int fewest() {
            return bringing().stream().mapToInt(Model::sum).min().orElse(-9);
        }

        int cheapest() {
            int least = -9;
            for (int[] row : bringing()) {
                int cost = 0;
                for (int i = 0; i < goers.size(); i++) {
                    cost += row[i] * goers.get(i)[3];
                }
                least = least == -9 ? cost : Math.min(least, cost);
            }
            return least;
        }

        int how(int person) {
            if (!isPerson(person)) {
                return refuse(1);
            }
            int fewest = fewest();
            for (int[] row : bringing()) {
                if (sum(row) == fewest) {
                    return row[person];
                }
            }
            return -9;
        }

        int endingNow(List<int[]> rows) {
            int many = 0;
            for (int[] row : rows) {
                many += number(end(row)) == state() ? 1 : 0;
            }
            return many;
        }

        int nothing() {
            return endingNow(rows());
        }

        int states() {
            TreeSet<Integer> states = new TreeSet<>();
            for (int[] row : rows()) {
                states.add(number(end(row)));
            }
            return states.size();
        }

        int keys(int what) {
            if (what < 0 || what > 1) {
                return refuse(2);
            }
            int best = -9;
            int all = (int) Math.round(Math.pow(colours, doors));
            for (int who = 0; who < 1 << goers.size(); who++) {
                Model some = new Model();
                some.take(this);
                some.goers.clear();
                for (int i = 0; i < goers.size(); i++) {
                    if ((who >> i & 1) == 1) {
                        some.goers.add(goers.get(i));
                    }
                }
                boolean enough = Math.pow(colours, Integer.bitCount(who)) >= all;
                if (enough && (best == -9 || Integer.bitCount(who) < Integer.bitCount(best)) && some.states() == all) {
                    best = who;
                }
            }
            return best == -9 || what == 1 ? best : Integer.bitCount(best);
        }

        int been() {
            return endingNow(rows(0, new int[7], new int[13]));
        }

        int sure() {
            int sure = -1;
            for (int[] row : rows(0, new int[7], new int[13])) {
                if (number(end(row)) == state()) {
                    int who = 0;
                    for (int i = 0; i < 7; i++) {
                        who += row[i] > 0 ? 1 << i : 0;
                    }
                    sure = sure == -1 ? who : sure & who;
                }
            }
            return Math.max(sure, 0);
        }

        int far(int n) {
            int turns = 0;
            for (long i = 1; i * i <= n; i++) {
                turns += n % i != 0 ? 0 : i * i == n ? 1 : 2;
            }
            return turns % colours;
        }

        int forEver(int n) {
            return n < 1 ? refuse(4) : n > 1000000000 ? refuse(6) : far(n);
        }

        int nth(int k) {
            if (k < 1 || k > 40) {
                return refuse(k < 1 ? 4 : 6);
            }
            int left = k;
            int at = 0;
            while (left > 0) {
                at++;
                left -= far(at) != 0 ? 1 : 0;
            }
            return at;
        }

        int open(int n) {
            if (n < 1 || n > 2000) {
                return refuse(n < 1 ? 4 : 6);
            }
            int many = 0;
            for (int at = 1; at <= n; at++) {
                many += far(at) != 0 ? 1 : 0;
            }
            return many;
        }

        int log(int person) {
            if (person != 9 && !isPerson(person)) {
                return refuse(1);
            }
            if (logged.size() == 10) {
                return refuse(6);
            }
            logged.add(person);
            return logged.size();
        }

        /** The least over all orders: of those who turn it and those who do not, any may be next. */
        int order(int door) {
            if (!isDoor(door)) {
                return refuse(1);
            }
            int turning = 0;
            for (int person : logged) {
                turning += person != 9 && turns(person, door) ? 1 : 0;
            }
            return leastShut(ways[door], turning, logged.size() - turning);
        }

        int leastShut(int way, int turning, int others) {
            int least = turning + others == 0 ? 0 : 100;
            if (turning > 0) {
                int next = (way + 1) % colours;
                least = Math.min(least, (next == 0 ? 1 : 0) + leastShut(next, turning - 1, others));
            }
            if (others > 0) {
                least = Math.min(least, (way == 0 ? 1 : 0) + leastShut(way, turning, others - 1));
            }
            return least;
        }

        int unknown() {
            return (int) logged.stream().filter(p -> p == 9).count();
        }

        int fills() {
            return unknown() > 3 ? refuse(6) : fillsFrom(0, new int[13]);
        }

        int fillsFrom(int i, int[] at) {
            if (i == logged.size()) {
                return number(at) == state() ? 1 : 0;
            }
            if (logged.get(i) != 9) {
                return fillsFrom(i + 1, gone(at, logged.get(i), 1));
            }
            int many = 0;
            for (int person = 0; person < goers.size(); person++) {
                many += fillsFrom(i + 1, gone(at, person, 1));
            }
            return many;
        }

        int run(int door) {
            if (!isDoor(door)) {
                return refuse(1);
            }
            if (unknown() > 0) {
                return refuse(3);
            }
            int[] at = ways;
            for (int person : logged) {
                at = gone(at, person, 1);
            }
            return at[door];
        }

        int judge() {
            if (unknown() > 0) {
                return refuse(3);
            }
            int[] at = ways;
            for (int i = 0; i < logged.size(); i++) {
                int[] next = gone(at, logged.get(i), 1);
                for (int door = 1; door <= doors; door++) {
                    if (at[door] != 0 && next[door] == 0) {
                        return i;
                    }
                }
                at = next;
            }
            return -9;
        }

        int clear() {
            int had = logged.size();
            logged.clear();
            return had;
        }

        /** Over the states themselves: what is won or lost in more and more goings, till nothing is added. */
        int match() {
            Map<Integer, int[]> states = new HashMap<>();
            for (int[] row : rows()) {
                states.put(number(end(row)), end(row));
            }
            Map<Integer, Integer> verdicts = new HashMap<>();
            for (int state : states.keySet()) {
                if (isWish(states.get(state))) {
                    verdicts.put(state, 0);
                }
            }
            boolean more = true;
            while (more) {
                more = false;
                for (int state : states.keySet()) {
                    int wins = 0;
                    for (int person = 0; person < goers.size(); person++) {
                        Integer then = verdicts.get(number(gone(states.get(state), person, 1)));
                        wins += then == null ? 0 : then == 0 ? 100 : 1;
                    }
                    if (!verdicts.containsKey(state) && (wins >= 100 || wins > 0 && wins == goers.size())) {
                        verdicts.put(state, wins >= 100 ? 1 : 0);
                        more = true;
                    }
                }
            }
            return verdicts.getOrDefault(state(), 2);
        }

        int seeds(int n, int z) {
            if (n < 0 || n > 99) {
                return refuse(n < 0 ? 4 : 6);
            }
            if (goers.isEmpty()) {
                return refuse(3);
            }
            int[] at = ways;
            int seed = z;
            for (int i = 0; i < n; i++) {
                seed = seed * 1664525 + 1013904223;
                at = gone(at, (seed << 1 >>> 9) % goers.size(), 1);
            }
            return number(at);
        }

        int image() {
            kept = new Model();
            kept.take(this);
            return goers.size();
        }

        int on() {
            if (kept == null) {
                return refuse(3);
            }
            take(kept);
            return goers.size();
        }

        int count(int what) {
            int open = 0;
            int stuckOnes = 0;
            for (int door = 1; door <= doors; door++) {
                open += ways[door] != 0 ? 1 : 0;
                stuckOnes += stuck[door];
            }
            int[] counts = {doors, colours, goers.size(), open, stuckOnes, logged.size(), letters.length(), goings};
            if (what >= 0 && what <= 7) {
                return counts[what];
            }
            return what >= 11 && what <= 16 ? refusals[what - 10] : -9;
        }
    }
}
