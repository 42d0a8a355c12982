import java.util.Random;

/** Random texts that are CAVES. */
final class Texts {
    private Texts() {
    }

    /** As many clauses as come, 10 at most, in so many signs. */
    static String cave(Random random, int most) {
        String text = clause(random, 2);
        for (int n = 1 + random.nextInt(10); n > 1; n--) {
            String more = text + ";" + clause(random, random.nextInt(6));
            text = more.length() <= most ? more : text;
        }
        return text.length() <= most ? text : "ebb 1 h<6";
    }

    private static String clause(Random random, int open) {
        String[] words = {"swell", "ebb", "wave"};
        int n = random.nextInt(5) == 0 ? random.nextInt(100) : random.nextInt(8);
        return words[random.nextInt(3)] + " " + n + " " + e(random, open);
    }

    private static String e(Random random, int open) {
        String text = f(random, open);
        for (int n = random.nextInt(3); n > 0; n--) {
            text += (random.nextBoolean() ? "|" : "&") + f(random, open);
        }
        return text;
    }

    private static String f(Random random, int open) {
        int way = open > 0 ? random.nextInt(4) : 9;
        if (way == 0) {
            return "!" + f(random, open - 1);
        }
        if (way == 1) {
            return "(" + e(random, open - 1) + ")";
        }
        char what = "hhdm".charAt(random.nextInt(4));
        int number = random.nextInt(12) == 0 ? random.nextInt(100) : random.nextInt(what == 'm' ? 5 : 13);
        return what + "" + "<=>".charAt(random.nextInt(3)) + number;
    }
}
