/** Promises 9 to 12: books of harbours, begins, ways, whence. */
final class BooksTest {
    private static final int BAD = -1, FULL = -3, NONE = -9, NO = -1000000;
    private static final String STRAIT = "99990000;00000000;00000000;00000000;00000000;00000099;";
    private static final Check CHECK = new Check();

    public static void main(String[] args) {
        books();
        begins();
        ways();
        whence();
        sixBooks();
        landLater();
        CHECK.end("BooksTest");
    }

    private static void due(String call, long got, long want) {
        CHECK.due(call, got, want);
    }

    private static void books() {
        OrphanWave x = Check.withOcean(STRAIT);
        int[][] refused = {{4, 0, 1, 0, 1}, {-1, 0, 1, 0, 1}, {48, 0, 1, 0, 1}, {0, 1, 0, 0, 1}, {0, 0, 1, 1, 0},
            {0, -10000, 1, 0, 1}, {0, 0, 10000, 0, 1}, {0, 0, 1, -1, 1}, {0, 0, 1, 0, 1000},
            {0, Integer.MIN_VALUE, Integer.MAX_VALUE, 0, 1}, {Integer.MAX_VALUE, 0, 1, 0, 1},
            {Integer.MIN_VALUE, 0, 1, 0, 1}};
        for (int[] r : refused) due("book " + r[0] + " " + r[1] + ".." + r[2] + " " + r[3] + ".." + r[4],
                x.book(r[0], r[1], r[2], r[3], r[4]), BAD);
        due("none came", x.count(1), 0);
        due("book 0", x.book(0, -9999, 9999, 0, 999), 0);
        due("book 1", x.book(0, 5, 5, 7, 7), 1);
        for (int b = 2; b < 6; b++) due("book " + b, x.book(47, -9999, -9999, 0, 0), b);
        due("a seventh", x.book(0, 0, 1, 0, 1), FULL);
        due("BAD ahead of FULL", x.book(4, 0, 1, 0, 1), BAD);
        due("six stay", x.count(1), 6);
    }

    private static void begins() {
        OrphanWave x = Check.withOcean(STRAIT);
        due("no books", x.begins(0, 50), NONE);
        due("BAD ahead of NONE", x.begins(4, 50), BAD);
        due("size 0", x.begins(0, 0), BAD);
        x.book(3, 10, 20, 0, 999);
        due("one book", x.begins(0, 50), 11);
        x.book(1, 10, 12, 0, 999);
        due("two books", x.begins(0, 50), 3);
        due("hours 10..20 less 6, 10..12 less 0", x.begins(1, 50), 3);
        due("hours 10..20, 10..12 less 6", x.begins(3, 50), 0);
        x.book(0, 1, 9, 50, 50);
        due("height 50 there", x.begins(0, 50), 3);
        due("height 51 there", x.begins(0, 51), 0);
        due("height 49 there", x.begins(0, 49), 0);
        due("none comes", x.begins(47, 50), 0);
        due("size 100", x.begins(0, 100), BAD);
        due("cell -1", x.begins(-1, 50), BAD);
        due("cell 48", x.begins(48, 50), BAD);
        due("land", x.begins(4, 50), BAD);
        wideBegins();
    }

    /** BEGINS themselves have no bounds: only a book's hours have. */
    private static void wideBegins() {
        OrphanWave x = Check.withOcean(STRAIT);
        x.book(3, -9999, 9999, 0, 999);
        due("all hours", x.begins(0, 1), 19999);
        due("earliest", x.whence(3), -9999 - 9);
        due("latest", x.whence(4), 9999 - 9);
        due("a cell's ways", x.ways(0), 19999 * 99);
        due("all ways", x.ways(-1), 19999 * 99 * 4);
    }

    private static void ways() {
        OrphanWave x = Check.withOcean(STRAIT);
        due("no books, all", x.ways(-1), NONE);
        due("no books, one", x.ways(0), NONE);
        due("BAD ahead of NONE", x.ways(4), BAD);
        x.book(1, 0, 1, 20, 30);
        due("height 20..30 where it began", x.ways(1), 22);
        due("from 0: sizes 21..31", x.ways(0), 2 * sizes(3, 20, 30));
        due("from 3: sizes", x.ways(3), 2 * sizes(6, 20, 30));
        due("none comes", x.ways(46), 0);
        due("all", x.ways(-1), 22 + 4 * sizes(3, 20, 30) + 2 * sizes(6, 20, 30));
        due("ways -2", x.ways(-2), BAD);
        due("ways 48", x.ways(48), BAD);
        due("ways of land", x.ways(4), BAD);
        due("ways min", x.ways(Integer.MIN_VALUE), BAD);
        due("ways max", x.ways(Integer.MAX_VALUE), BAD);
    }

    private static int sizes(int time, int low, int high) {
        int n = 0;
        for (int z = 1; z <= 99; z++) if (z * 100 / (100 + time) >= low && z * 100 / (100 + time) <= high) n++;
        return n;
    }

    private static void whence() {
        OrphanWave x = Check.withOcean(STRAIT);
        for (int what = 0; what <= 4; what++) due("no books " + what, x.whence(what), NO);
        x.book(1, 0, 1, 25, 30);
        x.tune(1, 1);
        due("cell", x.whence(0), 1);
        due("least", x.whence(1), 25);
        due("greatest", x.whence(2), 30);
        due("earliest", x.whence(3), 0);
        due("latest", x.whence(4), 1);
        due("what -1", x.whence(-1), NO);
        due("what 5", x.whence(5), NO);
        x.book(2, -5, 40, 0, 999);
        due("hours less 0, hours less 3", x.whence(4), 1);
        due("ways by two", x.ways(1), 12);
        x.book(46, 0, 1, 0, 999);
        for (int what = 0; what <= 4; what++) due("apart " + what, x.whence(what), NO);
        firstOfSeveral();
        oneWay();
    }

    private static void firstOfSeveral() {
        OrphanWave x = Check.withOcean(STRAIT);
        x.book(2, 7, 9, 0, 999);
        due("all have as many", x.whence(0), 0);
        due("all sizes", x.whence(1), 1);
        due("all sizes", x.whence(2), 99);
        due("begin by the first cell", x.whence(3), 1);
        due("begin by the first cell", x.whence(4), 3);
    }

    private static void oneWay() {
        OrphanWave least = Check.withOcean("10000000;" + "00000000;".repeat(5));
        due("a harbour of depth 1", least.book(0, 7, 7, 0, 3), 0);
        due("one way: size 1, twice as high", least.ways(0), 1);
        due("its cell", least.whence(0), 0);
        due("its least size", least.whence(1), 1);
        due("its greatest size", least.whence(2), 1);
        OrphanWave greatest = Check.withOcean(STRAIT);
        greatest.book(0, 7, 7, 99, 999);
        due("one way: size 99", greatest.ways(-1), 1);
        due("its least size", greatest.whence(1), 99);
        due("its greatest size", greatest.whence(2), 99);
        due("its begin", greatest.whence(3), 7);
        due("its begin", greatest.whence(4), 7);
    }

    private static void sixBooks() {
        OrphanWave x = Check.withOcean(STRAIT);
        for (int b = 0; b < 6; b++) x.book(b % 4, 10 * b, 70 - b, b, 90 + b);
        due("begins 47..58", x.begins(0, 50), 12);
        due("begins 50..61", x.begins(1, 50), 12);
        due("begins 47..60", x.begins(2, 50), 14);
        due("begins 44..57", x.begins(3, 50), 14);
    }

    private static void landLater() {
        OrphanWave x = Check.withOcean(STRAIT);
        x.book(1, 0, 9, 0, 999);
        Check.type(x, "90990000;00000000;00000000;00000000;00000000;00000099;");
        due("ocean anew", x.ocean(), 5);
        due("books stay", x.count(1), 1);
        due("none comes on land", x.begins(0, 5), 0);
        due("no way", x.ways(0), 0);
        due("no way at all", x.ways(-1), 0);
        due("whence none", x.whence(0), NO);
        due("the harbour is land", x.begins(1, 5), BAD);
        Check.type(x, STRAIT);
        x.ocean();
        due("sea again", x.begins(1, 5), 10);
    }
}
