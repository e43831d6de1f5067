import java.util.Random;

/**
 * Long runs of calls, ordinary, at the edges and wrong, each answer compared with that of the model. The seeds
 * are fixed, so that every run of this test makes the same calls.
 */
public final class ModelTest {
    private static final int RUNS = 500;
    private static final int CALLS = 512;
    private static final int[] EXTREMES = {Integer.MIN_VALUE, Integer.MIN_VALUE + 1, -1000, -1, 1000, Integer.MAX_VALUE};

    /** Calls that tell much, or make much happen, so that they come more often than the others. */
    private static final String[] COMMON = {"hears", "hears", "strength", "pass", "pass", "pass", "stock", "stock", "goTo",
        "bestPlace", "bestPlace", "freeCry", "owes", "pay", "of", "of", "sale", "sale", "differ", "nearest", "wareAt", "raid",
        "checksum", "checksum", "meanPrice", "silentShare", "fulfilled", "at"};

    /**
     * Each method, and its numbers: P a place, V a vendor, W a window, T a tape, S a sale, H an hour, B a truth,
     * o and s what is asked of a vendor and of a sale; or the range.
     */
    private static final String[] METHODS = {"place 0-9", "link P P 1-9", "far P P", "setWind 0-9", "type 0-9", "wipe",
        "vendor 0-5 10-60 1-99 P", "setCry V", "apart V V", "goTo V H P", "at V H", "setPrice V 1-99", "stock V 1-99",
        "hush V B", "setMelting 0-5 B", "isSilent V", "of V o", "strength V P", "window P 0-5", "want W 0-5 1-127 H H 1-99",
        "hears W V", "fulfilled W", "owes W V", "pay W V 1-99", "pass 1-60", "hour", "day", "sales", "sale S s",
        "setLimit H 0-99", "permit V P H H", "raid P", "tape P", "length T", "wareAt T 0-40", "differ T T", "nearest T",
        "freeCry P", "bestPlace V", "checksum", "silentShare", "meanPrice", "isSound"};

    private final int seed;
    private final Random random;
    private final Cryway street = new Cryway();
    private final Model model = new Model();
    private final StringBuilder past = new StringBuilder();
    private int calls;

    private ModelTest(int seed) {
        this.seed = seed;
        random = new Random(seed);
    }

    public static void main(String[] args) {
        for (int seed = 0; seed < RUNS; seed++) {
            new ModelTest(seed).run();
        }
        Script.finish("ModelTest");
    }

    private void run() {
        if (seed % 10 == 0) {
            fillStreet();
        } else if (random.nextInt(5) > 0) {
            buildStreet();
        }
        int hours = random.nextInt(4) == 0 ? 60 : 3;
        while (calls < CALLS) {
            boolean common = random.nextInt(4) > 0;
            String name = common ? oneOf(COMMON) : oneOf(METHODS).split(" ")[0];
            int[] numbers = numbersFor(name);
            if (name.equals("pass") && random.nextInt(8) > 0) {
                numbers[0] = 1 + random.nextInt(hours);
            }
            call(name, numbers);
        }
    }

    /** A small, loud and busy street, on which much is sold. */
    private void buildStreet() {
        int places = 1 + random.nextInt(10);
        int wares = 1 + random.nextInt(3);
        int dearest = random.nextBoolean() ? 12 : 99;
        for (int i = 0; i < places; i++) {
            call("place", random.nextInt(4));
            if (i > 0) {
                call("link", i, random.nextInt(i), 1 + random.nextInt(random.nextInt(9) + 1));
            }
        }
        for (int i = 2 + random.nextInt(7); i > 0; i--) {
            call("vendor", random.nextInt(wares), 40 + random.nextInt(21), 1 + random.nextInt(dearest), random.nextInt(places));
            typeSome();
            call("setCry", model.vendors() - 1);
            call("stock", model.vendors() - 1, 1 + random.nextInt(99));
        }
        for (int i = 1 + random.nextInt(12); i > 0; i--) {
            call("window", random.nextInt(places), random.nextInt(4));
            for (int j = 1 + random.nextInt(3); j > 0; j--) {
                call("want", model.windows() - 1, random.nextInt(wares), 127, 6 + random.nextInt(3), 18 + random.nextInt(3),
                    dearest / 2 + random.nextInt(dearest / 2));
            }
        }
        call("tape", random.nextInt(places));
        call("tape", random.nextInt(places));
    }

    /** As many of everything as there can be. */
    private void fillStreet() {
        for (int i = 0; i < 11; i++) {
            call("place", random.nextInt(3));
            call("link", i, i - 1, 1 + random.nextInt(3));
        }
        for (int i = 0; i < 9; i++) {
            call("vendor", random.nextInt(6), 50 + random.nextInt(11), 1 + random.nextInt(20), random.nextInt(10));
            call("stock", i, 99);
            typeSome();
            call("setCry", i);
            for (int j = 0; j < 7; j++) {
                call("permit", i, random.nextInt(10), 6 + random.nextInt(3), 9 + random.nextInt(12));
            }
        }
        for (int i = 0; i < 13; i++) {
            call("window", random.nextInt(10), random.nextInt(6));
            for (int j = 0; j < 5; j++) {
                call("want", i, random.nextInt(6), 127, 6, 20, 10 + random.nextInt(90));
            }
            call("tape", random.nextInt(10));
        }
        for (int i = 0; i < 10; i++) {
            call("freeCry", i);
            call("raid", i);
            call("bestPlace", i);
        }
    }

    private void typeSome() {
        call("wipe");
        int base = random.nextInt(3) == 0 ? 5 : 10;
        for (int i = 2 + random.nextInt(4); i > 0; i--) {
            call("type", random.nextInt(base));
        }
    }

    private void call(String name, int... numbers) {
        calls++;
        StringBuilder text = new StringBuilder(name).append('(');
        for (int i = 0; i < numbers.length; i++) {
            boolean truth = i == 1 && (name.equals("hush") || name.equals("setMelting"));
            text.append(i == 0 ? "" : ", ").append(truth ? String.valueOf(numbers[i] != 0) : String.valueOf(numbers[i]));
        }
        text.append(')');
        past.append(text).append("; ");
        String due = model.answer(name, numbers);
        String got = Script.answer(street, text.toString());
        if (!got.equals(due)) {
            Script.due("run " + seed, past.toString(), got, due);
            Script.finish("ModelTest");
        }
    }

    private String oneOf(String[] texts) {
        return texts[random.nextInt(texts.length)];
    }

    private int[] numbersFor(String name) {
        for (String method : METHODS) {
            String[] parts = method.split(" ");
            if (parts[0].equals(name)) {
                int[] numbers = new int[parts.length - 1];
                boolean wrong = random.nextInt(12) == 0;
                for (int i = 0; i < numbers.length; i++) {
                    numbers[i] = number(parts[i + 1], wrong);
                }
                return numbers;
            }
        }
        throw new IllegalArgumentException(name);
    }

    private int number(String kind, boolean wrong) {
        switch (kind) {
            case "B": return random.nextInt(4) == 0 ? 1 : 0;
            case "o": return wrong ? random.nextInt(65536) : "stvfew".charAt(random.nextInt(6));
            case "s": return wrong ? random.nextInt(65536) : "wvpdh".charAt(random.nextInt(5));
            default: return inRange(kind, wrong);
        }
    }

    private int inRange(String kind, boolean wrong) {
        int least = 0;
        int most;
        switch (kind) {
            case "P": most = model.places() - 1; break;
            case "V": most = model.vendors() - 1; break;
            case "W": most = model.windows() - 1; break;
            case "T": most = model.tapeCount() - 1; break;
            case "S": most = model.saleCount() - 1; least = Math.max(0, most - 60); break;
            case "H": least = 6; most = 20; break;
            default:
                least = Integer.parseInt(kind.split("-")[0]);
                most = Integer.parseInt(kind.split("-")[1]);
        }
        switch (wrong ? random.nextInt(6) : 0) {
            case 1: return least - 1;
            case 2: return most + 1;
            case 3: return EXTREMES[random.nextInt(EXTREMES.length)];
            case 4: return random.nextBoolean() ? least : most;
            default: return least + random.nextInt(Math.max(1, most - least + 1));
        }
    }
}
