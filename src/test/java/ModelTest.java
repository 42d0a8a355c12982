import java.util.Random;

/** Random runs of calls, each answered by the class and by the Model, and random texts of CAVES. */
public final class ModelTest {
    /** Behind its 512th call what an object answers is free; a CAVE is fed by 101 at most. */
    private static final int MOST_CALLS = 512, LONGEST = 101;
    private static final Due due = new Due();

    private final Random random;
    private final LowWater x = new LowWater();
    private final Model model = new Model();
    private int calls = 0;

    private ModelTest(long seed) {
        random = new Random(seed);
    }

    public static void main(String[] args) {
        Random texts = new Random(7);
        for (int i = 0; i < 30000; i++) {
            text(texts);
        }
        for (int seed = 0; seed < 400; seed++) {
            new ModelTest(seed).run();
        }
        due.end();
    }

    private static void text(Random random) {
        String text = broken(random, Texts.cave(random, 100));
        due.about("text '" + text + "'");
        LowWater x = new LowWater();
        for (int i = 0; i < text.length(); i++) {
            x.feed(text.charAt(i));
        }
        int fault = Model.fault(text);
        due.is("cave()", x.cave(), fault < 0 ? 0 : -10 - fault);
    }

    /** As it is, cut short, or with a sign put in, changed or left out. */
    private static String broken(Random random, String text) {
        int place = random.nextInt(text.length() + 1);
        String signs = "selwbav 0123456789hdm<=>!!((&|);;";
        char sign = signs.charAt(random.nextInt(signs.length()));
        String ahead = text.substring(0, place);
        String behind = text.substring(place);
        String rest = behind.isEmpty() ? "" : behind.substring(1);
        String[] ways = {text, ahead, ahead + sign + behind, ahead + sign + rest, ahead + rest};
        String one = ways[random.nextInt(ways.length)];
        return one.length() > 100 ? one.substring(0, 100) : one;
    }

    private void run() {
        if (random.nextInt(6) > 0) {
            feedCave();
        }
        for (int i = random.nextInt(7); i > 0; i--) {
            slate();
        }
        for (int i = random.nextInt(5); i > 0; i--) {
            reader();
        }
        if (random.nextInt(4) == 0) {
            for (int i = random.nextInt(168); i > 0; i--) {
                is("hours(60)", x.hours(60), model.hours(60));
            }
        }
        while (calls <= MOST_CALLS - LONGEST) {
            any();
        }
        while (calls < MOST_CALLS) {
            dry(random.nextInt(8));
        }
    }

    private void is(String call, long got, long want) {
        calls++;
        due.about("call " + calls);
        due.is(call, got, want);
    }

    /** 0 .. most less 1, now and then a little beside it, or far from it. */
    private int about(int most) {
        int way = random.nextInt(40);
        if (way == 0) {
            return random.nextInt();
        }
        if (way == 1) {
            return -1 - random.nextInt(2);
        }
        return way == 2 ? most + random.nextInt(2) : random.nextInt(most);
    }

    private void feedCave() {
        String text = Texts.cave(random, 10 + random.nextInt(90));
        text = random.nextInt(5) == 0 ? broken(random, text) : text;
        for (int i = 0; i < text.length(); i++) {
            char sign = text.charAt(i);
            is("feed(" + sign + ")", x.feed(sign), model.feed(sign));
        }
        is("cave()", x.cave(), model.cave());
    }

    private void slate() {
        int a = about(9);
        int b = 1 + about(4);
        is("slate", x.slate(a, b), model.slate(a, b));
    }

    private void reader() {
        int a = about(7);
        int b = about(10);
        is("reader", x.reader(a, b), model.reader(a, b));
    }

    private void any() {
        int way = random.nextInt(100);
        if (way < 12) {
            making(random.nextInt(25));
        } else if (way < 40) {
            telling(random.nextInt(8));
        } else if (way < 50) {
            looking(random.nextInt(6));
        } else if (way < 70) {
            reading(random.nextInt(11));
        } else if (way < 88) {
            dry(random.nextInt(8));
        } else {
            acting(random.nextInt(8));
        }
    }

    private void making(int which) {
        int a = about(128);
        if (which == 0) {
            feedCave();
        } else if (which < 3) {
            is("feed(" + a + ")", x.feed(a), model.feed(a));
        } else if (which < 4) {
            is("cave()", x.cave(), model.cave());
        } else if (which < 7) {
            slate();
        } else if (which < 10) {
            reader();
        } else if (which < 17) {
            int slate = about(6);
            int shelf = about(9);
            is("put(" + slate + ", " + shelf + ")", x.put(slate, shelf), model.put(slate, shelf));
        } else {
            int n = random.nextInt(3) == 0 ? about(61) : random.nextInt(4);
            is("hours(" + n + ")", x.hours(n), model.hours(n));
        }
    }

    private void telling(int which) {
        int reader = random.nextInt(40) == 0 ? -1 : random.nextInt(30) == 0 ? about(4) : random.nextInt(4);
        int slate = about(6);
        if (which < 3) {
            int k = about(25);
            is("ask(" + reader + ", " + slate + ", " + k + ")", x.ask(reader, slate, k), model.ask(reader, slate, k));
        } else if (which < 6) {
            int k = about(61);
            boolean kept = random.nextInt(4) > 0 && reader >= 0 && reader < model.count(1) && k >= 0 && k < 61;
            if (!kept || model.count(5) < 8) {
                is("tale(" + reader + ", " + slate + ", " + k + ")", x.tale(reader, slate, k),
                    model.tale(reader, slate, k));
            }
            is("looked()", x.looked(), model.looked());
        } else {
            int k = random.nextInt(12) == 0 ? -1 : about(61);
            boolean dry = model.level(k) >= 0 ? model.level(k) < 3 + random.nextInt(4) : random.nextBoolean();
            is("see(" + k + ", " + dry + ")", x.see(k, dry), model.see(k, dry));
            is("stood()", x.stood(), model.stood());
        }
    }

    private void looking(int which) {
        int a = about(6);
        int b = about(2);
        switch (which) {
            case 0:
                is("of(" + a + ", " + b + ")", x.of(a, b), model.of(a, b));
                break;
            case 1:
                is("at(" + a + ", " + b + ")", x.at(a, b), model.at(a, b));
                break;
            case 2:
                is("needs(" + b + ", " + a + ")", x.needs(b, a), model.needs(b, a));
                break;
            case 3:
                is("told(" + a + ")", x.told(a), model.told(a));
                break;
            default:
                int k = about(61);
                is("level(" + k + ")", x.level(k), model.level(k));
        }
    }

    private void reading(int which) {
        int a = about(4);
        int b = about(4);
        int slate = about(6);
        int what = about(2);
        int set = random.nextInt(3) == 0 ? (1 << model.count(0)) - 1 : about(1 << model.count(0));
        switch (which) {
            case 0:
            case 1:
                is("soon(" + a + ", " + slate + ")", x.soon(a, slate), model.soon(a, slate));
                break;
            case 2:
            case 3:
            case 4:
                int k = about(7) - 1;
                is("set(" + a + ", " + set + ", " + k + ")", x.set(a, set, k), model.set(a, set, k));
                break;
            case 5:
                is("two(" + a + ", " + b + ", " + set + ", " + what + ")", x.two(a, b, set, what),
                    model.two(a, b, set, what));
                break;
            case 6:
            case 7:
                is("waits()", x.waits(), model.waits());
                break;
            case 8:
                is("change()", x.change(), model.change());
                break;
            default:
                is("shelve(" + slate + ", " + what + ")", x.shelve(slate, what), model.shelve(slate, what));
        }
    }

    private void dry(int which) {
        int shelf = about(9);
        int what = about(2);
        int n = random.nextInt(3) == 0 ? about(61) : about(13);
        switch (which) {
            case 0:
                is("force(" + n + ")", x.force(n), model.force(n));
                break;
            case 1:
            case 2:
                is("open(" + shelf + ", " + n + ", " + what + ")", x.open(shelf, n, what), model.open(shelf, n, what));
                break;
            case 3:
                is("next(" + shelf + ")", x.next(shelf), model.next(shelf));
                break;
            case 4:
                is("mean(" + n + ", " + what + ")", x.mean(n, what), model.mean(n, what));
                break;
            default:
                is("safe(" + shelf + ", " + n + ", " + what + ")", x.safe(shelf, n, what), model.safe(shelf, n, what));
        }
    }

    private void acting(int which) {
        int reader = about(4);
        int a = about(8);
        int arg = random.nextBoolean() ? random.nextInt() : random.nextInt(100) - 50;
        if (which < 4) {
            int act = about(3);
            is("act(" + reader + ", " + act + ", " + arg + ")", x.act(reader, act, arg), model.act(reader, act, arg));
            for (int i = -1; i < 8 && which == 0; i++) {
                is("trace(" + i + ")", x.trace(i), model.trace(i));
            }
        } else if (which < 5) {
            is("as(" + reader + ", " + a + ")", x.as(reader, a), model.as(reader, a));
        } else if (which < 7) {
            is("count(" + a + ")", x.count(a), model.count(a));
        } else if (random.nextInt(3) == 0) {
            is("image()", x.image(), model.image());
        } else if (random.nextInt(2) == 0) {
            is("undo()", x.undo(), model.undo());
        }
    }
}
