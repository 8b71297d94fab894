/** Promises 32 to 36: stories with odds, marshes dug, the one to dig next. */
final class StoriesTest {
    private static final int BAD = -1, STATE = -2, NONE = -9;
    private static final Check CHECK = new Check();

    public static void main(String[] args) {
        stories();
        chances();
        dug();
        believed();
        dig();
        greatWeights();
        CHECK.end("StoriesTest");
    }

    private static void due(String call, long got, long want) {
        CHECK.due(call, got, want);
    }

    private static OrphanWave withWeights(int... weights) {
        OrphanWave x = new OrphanWave();
        for (int s = 0; s < 5; s++) x.story(s, weights[s]);
        return x;
    }

    private static void chancesAt(OrphanWave x, int marsh, int... chances) {
        for (int s = 0; s < 5; s++) x.chance(s, marsh, chances[s]);
    }

    private static void weigh(OrphanWave x, String when, long... weights) {
        for (int s = 0; s < 5; s++) due("weight " + s + " " + when, x.story(s, 0), weights[s]);
    }

    private static void stories() {
        OrphanWave x = new OrphanWave();
        int[] wrong = {-1, 5, Integer.MIN_VALUE, Integer.MAX_VALUE};
        for (int w : wrong) due("story " + w, x.story(w, 5), BAD);
        due("weight -1", x.story(0, -1), BAD);
        due("weight 100", x.story(0, 100), BAD);
        due("was 1", x.story(0, 99), 1);
        due("was 99", x.story(0, 0), 99);
        due("was 0", x.story(0, 7), 0);
        due("another", x.story(4, 7), 1);
        x.dug(3, 1);
        x.story(0, 7);
        due("what was dug is so still", x.count(6), 1);
    }

    private static void chances() {
        OrphanWave x = new OrphanWave();
        int[][] refused = {{-1, 0, 5}, {5, 0, 5}, {0, -1, 5}, {0, 6, 5}, {0, 0, -1}, {0, 0, 11}};
        for (int[] r : refused) due("chance", x.chance(r[0], r[1], r[2]), BAD);
        due("was 5", x.chance(4, 5, 10), 5);
        due("was 10", x.chance(4, 5, 0), 10);
        due("was 0", x.chance(4, 5, 3), 0);
        due("another marsh", x.chance(4, 4, 3), 5);
        due("another story", x.chance(3, 5, 3), 5);
    }

    private static void dug() {
        OrphanWave x = new OrphanWave();
        int[][] refused = {{-1, 0}, {6, 0}, {0, -1}, {0, 2}, {Integer.MIN_VALUE, 0}, {Integer.MAX_VALUE, 1}};
        for (int[] r : refused) due("dug", x.dug(r[0], r[1]), BAD);
        chancesAt(x, 2, 2, 4, 6, 8, 10);
        due("with sand", x.dug(2, 1), 1);
        due("again", x.dug(2, 0), STATE);
        due("BAD ahead of STATE", x.dug(2, 2), BAD);
        weigh(x, "made least", 1, 2, 3, 4, 5);
        x = withWeights(3, 6, 0, 9, 12);
        chancesAt(x, 5, 10, 8, 0, 6, 9);
        due("without sand", x.dug(5, 0), 1);
        weigh(x, "without sand", 0, 1, 0, 3, 1);
        x = withWeights(3, 6, 0, 9, 12);
        chancesAt(x, 5, 0, 0, 10, 0, 0);
        due("all would be 0", x.dug(5, 1), STATE);
        due("none is dug", x.count(6), 0);
        due("without sand it goes", x.dug(5, 0), 1);
        weigh(x, "by 30", 1, 2, 0, 3, 4);
        due("all are 0", x.dug(0, 1), STATE);
        due("one is dug", x.count(6), 1);
        x = new OrphanWave();
        for (int m = 5; m >= 0; m--) due("marsh " + m, x.dug(m, m & 1), 6 - m);
        due("all dug", x.count(6), 6);
        unlikeParts();
    }

    private static void unlikeParts() {
        OrphanWave x = withWeights(4, 6, 0, 10, 99);
        chancesAt(x, 0, 5, 5, 5, 5, 0);
        due("the part of those that are not 0", x.dug(0, 1), 1);
        weigh(x, "by 10", 2, 3, 0, 5, 0);
    }

    private static void believed() {
        OrphanWave x = withWeights(2, 4, 0, 6, 8);
        part(x, 0, 1, 10);
        part(x, 1, 1, 5);
        part(x, 2, 0, 1);
        part(x, 3, 3, 10);
        part(x, 4, 2, 5);
        x = withWeights(0, 0, 0, 0, 0);
        for (int s = 0; s < 5; s++) part(x, s, 0, 1);
        x = withWeights(1, 0, 0, 0, 0);
        part(x, 0, 1, 1);
        x = withWeights(3, 3, 1, 1, 2);
        part(x, 0, 3, 10);
        x = withWeights(0, 0, 99, 0, 0);
        part(x, 2, 1, 1);
        part(x, 1, 0, 1);
        int[] wrong = {-1, 5, Integer.MIN_VALUE, Integer.MAX_VALUE};
        for (int w : wrong) due("believed " + w, x.believed(w, 0), BAD);
        due("what -1", x.believed(0, -1), BAD);
        due("what 2", x.believed(0, 2), BAD);
    }

    private static void part(OrphanWave x, int s, long upper, long lower) {
        due("believed " + s + " upper", x.believed(s, 0), upper);
        due("believed " + s + " lower", x.believed(s, 1), lower);
    }

    private static void dig() {
        OrphanWave x = new OrphanWave();
        due("all alike: the first", x.dig(), 0);
        x.chance(1, 4, 9);
        due("9 and 5", x.dig(), 4);
        x.chance(2, 2, 1);
        due("5 and 9: as much, the first", x.dig(), 2);
        x.chance(3, 5, 10);
        x.chance(4, 5, 2);
        due("10 and 8", x.dig(), 5);
        due("dug", x.dug(5, 0), 1);
        CHECK.holds("not the dug one", x.dig() != 5);
        x = withWeights(1, 50, 1, 1, 1);
        chancesAt(x, 0, 10, 5, 0, 0, 0);
        chancesAt(x, 3, 5, 4, 5, 5, 5);
        due("weights count", x.dig(), 0);
        x = withWeights(60, 50, 0, 0, 0);
        chancesAt(x, 0, 6, 6, 5, 5, 5);
        chancesAt(x, 1, 2, 7, 5, 5, 5);
        due("greatest behind sand by one, behind none by another", x.dig(), 1);
        x = withWeights(0, 0, 0, 0, 0);
        due("all 0: the first", x.dig(), 0);
        x = new OrphanWave();
        chancesAt(x, 1, 0, 0, 0, 0, 0);
        due("0 and 10, 5 and 5: as much", x.dig(), 0);
        allDug();
        notMadeLeast();
    }

    private static void allDug() {
        OrphanWave x = new OrphanWave();
        for (int m = 0; m < 6; m++) {
            due("next", x.dig(), m);
            x.dug(m, 1);
        }
        due("none is left", x.dig(), NONE);
    }

    /** The weights behind a digging are compared as they are, not made least. */
    private static void notMadeLeast() {
        OrphanWave x = withWeights(10, 10, 10, 10, 10);
        chancesAt(x, 0, 3, 4, 5, 5, 5);
        chancesAt(x, 1, 0, 10, 5, 5, 5);
        due("100 and 100", x.dig(), 1);
    }

    private static void greatWeights() {
        OrphanWave x = withWeights(99, 98, 97, 95, 89);
        for (int m = 0; m < 6; m++) chancesAt(x, m, 9, 7, 10, 9, 9);
        for (int m = 0; m < 6; m++) due("dug " + m, x.dug(m, 1), m + 1);
        weigh(x, "six times", 99L * 531441, 98L * 117649, 97L * 1000000, 95L * 531441, 89L * 531441);
    }
}
