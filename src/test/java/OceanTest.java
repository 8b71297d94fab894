/** Promises 1 to 8 and 37: the text, the ocean, its waves, the minutes of towns. */
final class OceanTest {
    private static final int BAD = -1, FULL = -3, NONE = -9;
    private static final Check CHECK = new Check();

    public static void main(String[] args) {
        aNewObject();
        typing();
        oceansByText();
        oceanFaults();
        tunes();
        times();
        heights();
        towns();
        CHECK.end("OceanTest");
    }

    private static void due(String call, long got, long want) {
        CHECK.due(call, got, want);
    }

    private static void aNewObject() {
        OrphanWave x = new OrphanWave();
        for (int what = 0; what <= 7; what++) due("new count " + what, x.count(what), 0);
        for (int cell = 0; cell < 48; cell++) due("new depth " + cell, x.depth(cell), 0);
        due("new pace", x.tune(0, 3), 3);
        due("new fade", x.tune(1, 100), 100);
        due("new now", x.tune(2, 2000), 2000);
        due("new trace", x.trace(), 0);
        for (int s = 0; s < 5; s++) due("new weight", x.story(s, 1), 1);
        for (int s = 0; s < 5; s++) for (int m = 0; m < 6; m++) due("new chance", x.chance(s, m, 5), 5);
        due("new image 0", x.back(0), -2);
        due("new image 1", x.back(1), -2);
        x.ring(1);
        x.ring(2);
        x.wood(3, 5);
        x.wood(3, 6);
        due("living begins in 1000", x.died(3, 1), 1001);
        due("a wood's first end", x.died(3, 2), 0);
    }

    private static void typing() {
        OrphanWave x = new OrphanWave();
        due("type n 0", x.type(0, 0), BAD);
        due("type n 9", x.type(0, 9), BAD);
        due("type n min", x.type(0, Integer.MIN_VALUE), BAD);
        due("type n max", x.type(0, Integer.MAX_VALUE), BAD);
        due("nothing typed", x.count(7), 0);
        due("type 1", x.type(-1L, 1), 1);
        due("type 8", x.type(Long.MIN_VALUE, 8), 9);
        due("clear", x.clear(), 9);
        due("clear again", x.clear(), 0);
        for (int i = 1; i <= 49; i++) due("type " + i, x.type(0x2020202020202020L, 8), 8 * i);
        due("type to 399", x.type(0x20202020202020L, 7), 399);
        due("two more are too many", x.type(0x2020L, 2), FULL);
        due("BAD ahead of FULL", x.type(0x2020L, 9), BAD);
        due("nothing came of it", x.count(7), 399);
        due("the 400th", x.type(0x20L, 1), 400);
        due("the 401st", x.type(0x20L, 1), FULL);
        due("400 blanks are no ocean", x.ocean(), -410);
        due("400 blanks are a calendar", x.calendar(), 0);
        due("the text is empty then", x.count(7), 0);
        typedOrder();
    }

    /** The highest of the lowest n bytes comes first; higher ones are left out. */
    private static void typedOrder() {
        OrphanWave x = new OrphanWave();
        x.type(0x3132333435363738L, 8);
        x.type(0x7878783bL, 1);
        Check.type(x, "00000000;00000000;00000000;00000000;");
        x.type(0x39393939303030L, 3);
        x.type(0x3030303139L, 5);
        x.type(0x3bL, 1);
        due("ocean by eights", x.ocean(), 10);
        for (int c = 0; c < 8; c++) due("depth " + c, x.depth(c), c + 1);
        due("depth 46", x.depth(46), 1);
        due("depth 47", x.depth(47), 9);
    }

    private static void oceansByText() {
        OrphanWave x = Check.withOcean("12345678;90000000;00000000;00000000;00000000;00000002;");
        due("sea", x.count(0), 10);
        due("text is empty", x.count(7), 0);
        due("first", x.depth(0), 1);
        due("first of second row", x.depth(8), 9);
        due("last", x.depth(47), 2);
        due("depth -1", x.depth(-1), BAD);
        due("depth 48", x.depth(48), BAD);
        due("depth min", x.depth(Integer.MIN_VALUE), BAD);
        due("depth max", x.depth(Integer.MAX_VALUE), BAD);
        Check.type(x, "  1 0000000 ;0000 0000; 00000000;00000000;00000000;0000000 3 ;  ");
        due("blanks between", x.ocean(), 2);
        due("depth 0 anew", x.depth(0), 1);
        due("depth 47 anew", x.depth(47), 3);
        due("depth 8 anew", x.depth(8), 0);
    }

    private static void oceanFaults() {
        String good = "11111111;11111111;11111111;11111111;11111111;11111111;";
        fault("", 0);
        fault("   ", 3);
        fault(good.substring(0, 53), 53);
        fault(good.substring(0, 53) + "  ", 55);
        fault(good + "1", 54);
        fault(good + "  ;", 56);
        fault("1111111;", 7);
        fault("111111111;", 8);
        fault(" 1111 111 x", 10);
        fault("x", 0);
        fault(";", 0);
        fault("/", 0);
        fault(":", 0);
        fault("1111\t1111;", 4);
        fault("1111" + (char) 255, 4);
        fault("11111111" + (char) 0, 8);
        fault("11111111;11111111;1111111x;x", 25);
    }

    private static void fault(String text, int place) {
        OrphanWave x = Check.withOcean("90000000;00000000;00000000;00000000;00000000;00000000;");
        Check.type(x, text);
        due("ocean by '" + text + "'", x.ocean(), -10 - place);
        due("its text stays", x.count(7), text.length());
        due("its ocean stays", x.count(0), 1);
        due("its depth stays", x.depth(0), 9);
    }

    private static void tunes() {
        OrphanWave x = new OrphanWave();
        int[][] refused = {{0, 0}, {0, 10}, {1, 0}, {1, 1000}, {2, -1}, {2, 10000}, {3, 5}, {-1, 5},
            {Integer.MIN_VALUE, 1}, {Integer.MAX_VALUE, 1}, {0, Integer.MIN_VALUE}, {1, Integer.MAX_VALUE}};
        for (int[] r : refused) due("tune " + r[0] + " " + r[1], x.tune(r[0], r[1]), BAD);
        due("pace 1", x.tune(0, 1), 3);
        due("pace 9", x.tune(0, 9), 1);
        due("pace was 9", x.tune(0, 9), 9);
        due("fade 1", x.tune(1, 1), 100);
        due("fade 999", x.tune(1, 999), 1);
        due("fade was 999", x.tune(1, 999), 999);
        due("now 0", x.tune(2, 0), 2000);
        due("now 9999", x.tune(2, 9999), 0);
        due("now was 9999", x.tune(2, 9999), 9999);
    }

    private static void times() {
        OrphanWave x = Check.withOcean("91900000;19900000;00000009;90000000;00000000;00000099;");
        due("to itself", x.time(0, 0), 0);
        due("from land to itself", x.time(3, 3), NONE);
        due("to land", x.time(0, 3), NONE);
        due("from land", x.time(3, 0), NONE);
        due("into depth 1", x.time(0, 1), 27);
        due("into depth 9", x.time(1, 0), 3);
        due("round by depth 9 no shorter", x.time(0, 2), 30);
        due("down through depth 1", x.time(0, 9), 30);
        due("back", x.time(9, 0), 30);
        due("a row's end is no way to the next row", x.time(23, 24), NONE);
        due("right", x.time(46, 47), 3);
        due("apart", x.time(0, 47), NONE);
        due("down from the first row", x.time(0, 8), 27);
        due("up to the first row", x.time(8, 0), 3);
        x.tune(0, 1);
        due("pace 1", x.time(0, 1), 9);
        int[] wrong = {-1, 48, Integer.MIN_VALUE, Integer.MAX_VALUE};
        for (int w : wrong) {
            due("time from " + w, x.time(w, 0), BAD);
            due("time to " + w, x.time(0, w), BAD);
            due("time on land and " + w, x.time(3, w), BAD);
        }
        detour();
        longestWay();
    }

    private static void detour() {
        OrphanWave x = Check.withOcean("91900000;90900000;99900000;00000000;00000000;00000000;");
        due("the deep way round is sooner", x.time(0, 2), 18);
    }

    private static void longestWay() {
        OrphanWave x = Check.withOcean("11111111;00000001;11111111;10000000;11111111;00000001;");
        x.tune(0, 9);
        due("through a winding strait", x.time(0, 47), 26 * 81);
        due("and back", x.time(47, 0), 26 * 81);
    }

    private static void heights() {
        OrphanWave x = Check.withOcean("91239000;00000000;00000000;00000000;00000000;00000000;");
        due("where it began", x.height(0, 50, 0), 50);
        due("twice in depth 1, behind rounding", x.height(0, 50, 1), 2 * (5000 / 127));
        due("twice in depth 2", x.height(0, 50, 2), 2 * (5000 / 151));
        due("once in depth 3", x.height(0, 50, 3), 5000 / 172);
        due("began in depth 1", x.height(1, 7, 1), 14);
        due("size 1", x.height(0, 1, 4), 0);
        due("size 99", x.height(0, 99, 4), 9900 / 175);
        due("to land", x.height(0, 50, 5), NONE);
        due("from land", x.height(5, 50, 0), NONE);
        due("size 0", x.height(0, 0, 0), BAD);
        due("size 100", x.height(0, 100, 0), BAD);
        due("size 100 on land", x.height(5, 100, 5), BAD);
        due("from -1", x.height(-1, 50, 0), BAD);
        due("from 48", x.height(48, 50, 0), BAD);
        due("to -1", x.height(0, 50, -1), BAD);
        due("to 48", x.height(0, 50, 48), BAD);
        x.tune(1, 999);
        due("fade 999", x.height(0, 99, 3), 99 * 999 / (999 + 72));
        x.tune(1, 1);
        due("fade 1", x.height(0, 99, 3), 99 / 73);
    }

    private static void towns() {
        OrphanWave x = Check.withOcean("99950000;00000000;00000000;90000000;90000000;00000000;");
        due("from one cell", x.minutes(0, 1 << 3, 0), 9);
        due("towards the town", x.minutes(3, 1, 0), 6 + 15);
        due("the sooner of two", x.minutes(3, 1 | 4, 0), 15);
        due("from itself", x.minutes(3, 8, 0), 0);
        due("a town of depth 1", Check.withOcean("91000000;" + "00000000;".repeat(5)).minutes(1, 1, 0), 27);
        due("cell 24 is the first of the second half", x.minutes(32, 0, 1), 3);
        due("cell 32 in the second half", x.minutes(24, 0, 1 << 8), 3);
        due("land in the set", x.minutes(0, 1 << 5, 0), NONE);
        due("land and sea in the set", x.minutes(0, 1 << 5 | 2, 0), 3);
        due("no set", x.minutes(0, 0, 0), NONE);
        due("none comes", x.minutes(0, 0, 1), NONE);
        due("all", x.minutes(0, 0xffffff, 0xffffff), 0);
        due("low of 25 bits", x.minutes(0, 0x1000000, 0), BAD);
        due("high of 25 bits", x.minutes(0, 0, 0x1000000), BAD);
        due("low -1", x.minutes(0, -1, 0), BAD);
        due("high -1", x.minutes(0, 0, -1), BAD);
        due("a town on land", x.minutes(5, 1, 0), BAD);
        due("town -1", x.minutes(-1, 1, 0), BAD);
        due("town 48", x.minutes(48, 1, 0), BAD);
    }
}
