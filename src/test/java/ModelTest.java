import java.lang.reflect.Method;
import java.util.Arrays;
import java.util.Random;

/** Runs of calls, drawn from a fixed seed, on the class and on the model: all answers are the same. */
final class ModelTest {
    private static final int RUNS = 400, CALLS = 512;
    private static final int[] WILD = {-1, -2, 100, 48, 12, 10000, -10000, 1000, Integer.MIN_VALUE, Integer.MAX_VALUE,
        Integer.MIN_VALUE + 60, Integer.MAX_VALUE - 59, 1 << 24, 1 << 28};
    /** The numbers at which the document's spans end, with those next to them. */
    private static final int[] EDGES = {-10000, -9999, -9998, -62, -61, -60, -59, -2, -1, 0, 1, 2, 3, 4, 5, 6, 7, 8, 9,
        10, 11, 12, 13, 28, 29, 30, 31, 46, 47, 48, 49, 50, 51, 58, 59, 60, 61, 98, 99, 100, 101, 998, 999, 1000, 1001,
        2000, 4095, 4096, 9998, 9999, 10000, 10001, (1 << 24) - 1, 1 << 24, Integer.MIN_VALUE, Integer.MAX_VALUE};
    private static final String TWELVE = "29 30 29 30 30 29 29 30 29 30 29 30 ";

    /** What each call's numbers are for the most part: lows and highs by turns. */
    private static final Object[][] RANGES = {
        {"depth", 0, 47}, {"tune", 0, 2, 0, 20}, {"time", 0, 47, 0, 47}, {"height", 0, 47, 1, 99, 0, 47},
        {"book", 0, 47, -90, 0, 1, 500, 0, 15, 10, 150}, {"begins", 0, 47, 1, 99}, {"ways", -1, 47}, {"whence", 0, 4},
        {"clock", 0, 3, 0, 12, 0, 29, 0, 11}, {"told", -200, 2000000, 0, 3}, {"ring", 0, 9}, {"living", 0, 9999},
        {"wood", 0, 3, 0, 9}, {"felled", 0, 3, 0, 1}, {"like", 0, 3, 0, 40}, {"died", 0, 3, 0, 2}, {"alike"},
        {"sheet", 0, 5, 0, 500, 300, 900}, {"together", 0, 4095, 0, 1}, {"slips"}, {"joined", 0, 999}, {"whole", 0, 1},
        {"tale", 0, 9999, 0, 50, 1, 50, 40, 99, 0, 1}, {"known", 0, 2000}, {"next", 0, 300, 0, 1}, {"even"},
        {"story", 0, 4, 0, 99}, {"chance", 0, 4, 0, 5, 0, 10}, {"dug", 0, 5, 0, 1}, {"believed", 0, 4, 0, 1}, {"dig"},
        {"minutes", 0, 47, 0, 1 << 23, 0, 1 << 23}, {"trust", 0, 5, 0, 11}, {"keep", 0, 1}, {"back", 0, 1},
        {"count", 0, 7}, {"trace"}, {"clear"}, {"ocean"}, {"calendar"}};

    private static final Check CHECK = new Check();

    public static void main(String[] args) throws Exception {
        for (int run = 0; run < RUNS; run++) run(new Random(1000 + run), run);
        CHECK.end("ModelTest");
    }

    private static void run(Random random, int run) throws Exception {
        OrphanWave x = new OrphanWave();
        Model model = new Model();
        int made = type(random, x, model, oceanText(random), run);
        made += ask(x, model, "ocean", new int[0], run);
        // Some runs stay in a few calls, so that they come to the limits of what is kept.
        int few = run % 2 == 0 ? RANGES.length : 3 + random.nextInt(6);
        int first = random.nextInt(RANGES.length);
        while (made < CALLS - 60) {
            if (random.nextInt(25) == 0) {
                boolean sea = random.nextBoolean();
                made += type(random, x, model, sea ? oceanText(random) : calendarText(random), run);
                made += ask(x, model, sea ? "ocean" : "calendar", new int[0], run);
                if (random.nextInt(3) > 0) made += ask(x, model, "clear", new int[0], run);
            }
            Object[] row = RANGES[(first + random.nextInt(few)) % RANGES.length];
            int[] numbers = numbers(random, row);
            if (run % 3 == 2) toEdges(random, numbers);
            made += ask(x, model, (String) row[0], numbers, run);
        }
    }

    private static int[] numbers(Random random, Object[] row) {
        int[] all = new int[(row.length - 1) / 2];
        for (int i = 0; i < all.length; i++) {
            int low = (Integer) row[2 * i + 1];
            int high = (Integer) row[2 * i + 2];
            all[i] = random.nextInt(30) == 0 ? WILD[random.nextInt(WILD.length)] : low + random.nextInt(high - low + 1);
        }
        if (row[0].equals("tune") && all[0] == 1) all[1] *= 60;
        if (row[0].equals("tune") && all[0] == 2) all[1] *= 200;
        return all;
    }

    private static void toEdges(Random random, int[] numbers) {
        for (int i = 0; i < numbers.length; i++) {
            if (random.nextInt(3) == 0) numbers[i] = EDGES[random.nextInt(EDGES.length)];
        }
    }

    private static int ask(OrphanWave x, Model model, String name, int[] numbers, int run) throws Exception {
        Object[] told = Arrays.stream(numbers).boxed().toArray();
        long got = answer(x, OrphanWave.class, name, told);
        long want = answer(model, Model.class, name, told);
        CHECK.due("run " + run + ": " + name + Arrays.toString(numbers), got, want);
        return 1;
    }

    private static long answer(Object on, Class<?> of, String name, Object[] told) throws Exception {
        Class<?>[] types = new Class<?>[told.length];
        Arrays.fill(types, int.class);
        Method method = of.getMethod(name, types);
        return ((Number) method.invoke(on, told)).longValue();
    }

    private static int type(Random random, OrphanWave x, Model model, String text, int run) {
        int made = 0;
        int at = 0;
        while (at < text.length()) {
            int n = Math.min(text.length() - at, 8);
            long v = random.nextLong();
            for (int i = 0; i < n; i++) v = v << 8 | text.charAt(at + i);
            CHECK.due("run " + run + ": type " + v + " " + n, x.type(v, n), model.type(v, n));
            made++;
            at += n;
        }
        int wild = WILD[random.nextInt(WILD.length)];
        CHECK.due("run " + run + ": type n " + wild, x.type(wild, wild), model.type(wild, wild));
        return made + 1;
    }

    private static String oceanText(Random random) {
        StringBuilder text = new StringBuilder();
        int land = random.nextInt(5);
        for (int row = 0; row < 6; row++) {
            for (int column = 0; column < 8; column++) {
                text.append((char) ('0' + (random.nextInt(10) < land ? 0 : 1 + random.nextInt(9))));
            }
            text.append(random.nextInt(5) == 0 ? "; " : ";");
        }
        return harmed(random, text.toString());
    }

    private static String calendarText(Random random) {
        StringBuilder text = new StringBuilder();
        int years = random.nextInt(10) == 0 ? 8 + random.nextInt(3) : random.nextInt(4);
        for (int y = 0; y < years; y++) text.append(TWELVE).append(random.nextBoolean() ? ";" : "30;");
        return harmed(random, text.toString());
    }

    /** One text of three gets a byte that is another, one more or one less. */
    private static String harmed(Random random, String text) {
        if (random.nextInt(3) > 0 || text.isEmpty()) return text;
        String marks = " ;0123456789x/:" + (char) 255;
        int at = random.nextInt(text.length());
        char mark = marks.charAt(random.nextInt(marks.length()));
        return switch (random.nextInt(3)) {
            case 0 -> text.substring(0, at) + mark + text.substring(at + 1);
            case 1 -> text.substring(0, at) + mark + text.substring(at);
            default -> text.substring(0, at) + text.substring(at + 1);
        };
    }
}
