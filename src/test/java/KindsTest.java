/** Promises 38 to 42: kinds, images, counts, the trace. */
final class KindsTest {
    private static final int BAD = -1, STATE = -2, NO = -1000000;
    private static final String SEA = "99999999;99999999;99999999;99999999;99999999;99999999;";
    private static final Check CHECK = new Check();

    public static void main(String[] args) {
        trust();
        spans();
        images();
        imagesKeepNothingElse();
        twoImages();
        counts();
        CHECK.end("KindsTest");
    }

    private static void due(String call, long got, long want) {
        CHECK.due(call, got, want);
    }

    private static void trust() {
        OrphanWave x = Check.withOcean(SEA);
        x.book(0, 0, 1, 0, 1);
        x.book(0, 0, 1, 0, 1);
        x.book(0, 0, 1, 0, 1);
        x.sheet(4, 100, 350);
        x.sheet(4, 350, 400);
        x.sheet(1, 0, 99);
        x.sheet(0, 100, 100);
        long trace = 0;
        due("sign", x.trust(0, 0), 5);
        due("trace", x.trace(), trace += 1);
        due("sheet", x.trust(1, 0), 8);
        due("trace", x.trace(), trace += 11);
        due("written", x.trust(2, 0), 8);
        due("trace", x.trace(), trace += 101);
        due("slid", x.trust(3, 0), 24);
        due("trace", x.trace(), trace += 1011);
        due("told", x.trust(4, 0), 16);
        due("trace", x.trace(), trace += 10101);
        due("aged", x.trust(5, 0), 3);
        due("trace", x.trace(), trace += 100001);
        int[] wrongKinds = {-1, 6, Integer.MIN_VALUE, Integer.MAX_VALUE};
        for (int kind : wrongKinds) due("kind " + kind, x.trust(kind, 0), NO);
        int[] wrongSheets = {-1, 4, 12, Integer.MIN_VALUE, Integer.MAX_VALUE};
        for (int sheet : wrongSheets) due("sheet " + sheet, x.trust(0, sheet), NO);
        due("no trace of these", x.trace(), trace);
        due("no sheets", new OrphanWave().trust(0, 0), NO);
    }

    private static void spans() {
        OrphanWave x = new OrphanWave();
        x.sheet(0, 0, 98);
        x.sheet(0, 0, 99);
        x.sheet(0, 0, 9999);
        x.sheet(5, 500, 500);
        due("99 years", x.trust(5, 0), 1);
        due("100 years", x.trust(5, 1), 0);
        due("10000 years", x.trust(5, 2), -99);
        due("1 year", x.trust(5, 3), 6);
        due("apart from two", x.trust(1, 3), 8);
        due("ends are years too", x.trust(1, 0), 4);
    }

    private static void images() {
        OrphanWave x = Check.withOcean(SEA);
        int[] wrong = {-1, 2, Integer.MIN_VALUE, Integer.MAX_VALUE};
        for (int w : wrong) {
            due("keep " + w, x.keep(w), BAD);
            due("back " + w, x.back(w), BAD);
        }
        due("none kept", x.back(0), STATE);
        x.book(5, 10, 20, 0, 999);
        x.sheet(1, 10, 20);
        x.sheet(2, 30, 40);
        x.known(100);
        x.known(300);
        x.story(0, 8);
        x.chance(0, 2, 9);
        x.dug(2, 1);
        due("keep", x.keep(0), 2);
        x.book(6, 100, 100, 0, 999);
        x.sheet(3, 0, 9999);
        x.known(301);
        x.story(0, 2);
        x.story(1, 3);
        x.dug(3, 0);
        due("none kept there", x.back(1), STATE);
        due("three sheets still", x.count(4), 3);
        due("back", x.back(0), 2);
        due("books", x.count(1), 1);
        due("the book", x.begins(5, 9), 11);
        due("sheets", x.count(4), 2);
        due("known", x.count(5), 2);
        due("gaps", x.even(), 1000);
        due("dug", x.count(6), 1);
        due("dug, the same", x.dug(2, 1), STATE);
        due("not dug", x.dug(3, 1), 2);
        due("weight 0", x.story(0, 8), 72);
        due("weight 1", x.story(1, 1), 5);
        overwritten();
    }

    /** What was kept stays as it was kept, whatever comes over it in the living state. */
    private static void overwritten() {
        OrphanWave x = Check.withOcean(SEA);
        x.keep(1);
        x.book(5, 10, 20, 0, 999);
        x.sheet(1, 10, 20);
        x.known(100);
        due("back to nothing", x.back(1), 0);
        due("no books", x.count(1), 0);
        due("no known", x.count(5), 0);
        x.sheet(4, 7, 8);
        x.keep(0);
        x.back(1);
        x.sheet(2, 1, 2);
        due("back to a sheet", x.back(0), 1);
        due("its first year", x.together(1, 0), 7);
        due("its last year", x.together(1, 1), 8);
        due("its marsh", x.joined(7), 16);
        due("kept anew", x.keep(1), 1);
        x.back(0);
        due("back to the new one", x.back(1), 1);
        otherThings();
    }

    /** Each number of a book and of a known slip comes back, not only how many there are. */
    private static void otherThings() {
        OrphanWave x = Check.withOcean("00000000;09000000;00000000;00000000;00000000;90000000;");
        x.keep(1);
        x.book(9, 10, 20, 30, 40);
        x.known(100);
        x.known(200);
        x.known(500);
        x.keep(0);
        x.back(1);
        x.book(40, -700, 900, 0, 999);
        x.known(1);
        x.known(2);
        x.known(3);
        x.back(0);
        due("the whole book", x.ways(9), 11 * 11);
        due("its cell", x.whence(0), 9);
        due("its from", x.whence(3), 10);
        due("its to", x.whence(4), 20);
        due("its low", x.whence(1), 30);
        due("its high", x.whence(2), 40);
        due("the known years", x.even(), 333);
        due("the last known year", x.known(500), BAD);
    }

    private static void imagesKeepNothingElse() {
        OrphanWave x = Check.withOcean(SEA);
        x.sheet(0, 1, 2);
        x.keep(0);
        x.tune(0, 9);
        x.tune(1, 9);
        x.tune(2, 9);
        Check.type(x, "29 30 29 30 29 30 29 30 29 30 29 30;");
        x.calendar();
        Check.type(x, "10000000;00000000;00000000;00000000;00000000;00000000;");
        x.ocean();
        Check.type(x, "abc");
        x.living(77);
        x.ring(4);
        x.ring(5);
        x.wood(2, 4);
        x.wood(2, 5);
        x.chance(3, 3, 3);
        x.trust(0, 0);
        x.back(0);
        due("pace", x.tune(0, 3), 9);
        due("fade", x.tune(1, 3), 9);
        due("now", x.tune(2, 3), 9);
        due("calendar", x.count(2), 1);
        due("ocean", x.count(0), 1);
        due("text", x.count(7), 3);
        due("rings", x.count(3), 2);
        due("wood", x.died(2, 1), 78);
        due("chance", x.chance(3, 3, 3), 3);
        due("trace", x.trace(), 1);
    }

    private static void twoImages() {
        OrphanWave x = new OrphanWave();
        x.sheet(0, 1, 2);
        x.keep(0);
        x.sheet(1, 3, 4);
        x.keep(1);
        x.sheet(2, 5, 6);
        due("first", x.back(0), 1);
        due("second", x.back(1), 2);
        due("second's", x.joined(3), 2);
        due("first again", x.back(0), 1);
        due("first's", x.joined(3), 0);
    }

    private static void counts() {
        OrphanWave x = Check.withOcean(SEA);
        due("what -1", x.count(-1), BAD);
        due("what 8", x.count(8), BAD);
        due("what min", x.count(Integer.MIN_VALUE), BAD);
        due("what max", x.count(Integer.MAX_VALUE), BAD);
        Check.type(x, "29 30 29 30 29 30 29 30 29 30 29 30;".repeat(2));
        x.calendar();
        x.book(0, 0, 1, 0, 1);
        for (int i = 0; i < 3; i++) x.ring(i);
        for (int i = 0; i < 4; i++) x.sheet(i, i, i);
        for (int i = 0; i < 5; i++) x.known(i);
        for (int i = 0; i < 6; i++) x.dug(i, 1);
        Check.type(x, "1234567");
        int[] due = {48, 1, 2, 3, 4, 5, 6, 7};
        for (int what = 0; what < 8; what++) due("count " + what, x.count(what), due[what]);
    }
}
