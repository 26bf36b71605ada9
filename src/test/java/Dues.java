/** What the tests share: answers looked at, houses told letter by letter, the LOG filled. */
abstract class Dues {
    private static String sentence = "";
    private static int wrong = 0;
    private static int looked = 0;

    /** The document's words that are looked at from here on: they stand ahead of each answer that is not due. */
    static void sentence(String words) {
        sentence = words + ": ";
    }

    static void due(String call, int got, int want) {
        looked++;
        if (got != want) {
            wrong++;
            System.out.println(sentence + call + " answered " + got + ", due is " + want);
        }
    }

    static void due(String call, int[] got, int[] want) {
        due("how many of " + call, got.length, want.length);
        for (int i = 0; i < got.length && i < want.length; i++) {
            due(call + ", " + i, got[i], want[i]);
        }
    }

    static int tell(TurnsMultiples x, String text) {
        int ahead = x.count(6);
        for (int i = 0; i < text.length(); i++) {
            due("letter " + i + " of " + text, x.letter(text.charAt(i)), ahead + i + 1);
        }
        return x.house();
    }

    /** A new object behind told houses, none of them at fault. */
    static TurnsMultiples housed(String... texts) {
        TurnsMultiples x = new TurnsMultiples();
        for (String text : texts) {
            retell(x, text);
        }
        return x;
    }

    static void retell(TurnsMultiples x, String text) {
        int statements = text.length() - text.replace(";", "").length();
        due("house of " + text, tell(x, text), statements);
    }

    static void logs(TurnsMultiples x, int... people) {
        for (int person : people) {
            int before = x.count(5);
            due("log(" + person + ")", x.log(person), before + 1);
        }
    }

    static void refused(TurnsMultiples x, int... counts) {
        for (int i = 0; i < 6; i++) {
            due("count(" + (11 + i) + ")", x.count(11 + i), i < counts.length ? counts[i] : 0);
        }
    }

    static int bits(int... doors) {
        int bits = 0;
        for (int door : doors) {
            bits |= 1 << (door - 1);
        }
        return bits;
    }

    static void end(String holds) {
        System.out.println(wrong == 0 ? holds + ": " + looked + " answers" : wrong + " answers are not as due");
        if (wrong != 0) {
            System.exit(1);
        }
    }
}
