/** Promises 23 to 31: sheets of sand, tales, known slips. */
final class SheetsTest {
    private static final int BAD = -1, FULL = -3, NONE = -9, NO = -1000000;
    private static final Check CHECK = new Check();

    public static void main(String[] args) {
        sheets();
        together();
        slips();
        joined();
        whole();
        tales();
        known();
        next();
        even();
        CHECK.end("SheetsTest");
    }

    private static void due(String call, long got, long want) {
        CHECK.due(call, got, want);
    }

    private static OrphanWave withSheets(int[]... sheets) {
        OrphanWave x = new OrphanWave();
        for (int[] s : sheets) x.sheet(s[0], s[1], s[2]);
        return x;
    }

    private static OrphanWave withKnown(int... years) {
        OrphanWave x = new OrphanWave();
        for (int year : years) x.known(year);
        return x;
    }

    private static void sheets() {
        OrphanWave x = new OrphanWave();
        int[][] refused = {{-1, 0, 1}, {6, 0, 1}, {0, -1, 1}, {0, 0, 10000}, {0, 2, 1},
            {Integer.MIN_VALUE, 0, 1}, {Integer.MAX_VALUE, 0, 1}, {0, Integer.MIN_VALUE, Integer.MAX_VALUE}};
        for (int[] r : refused) due("sheet " + r[0] + " " + r[1] + ".." + r[2], x.sheet(r[0], r[1], r[2]), BAD);
        due("none came", x.count(4), 0);
        due("sheet 0", x.sheet(0, 0, 9999), 0);
        due("sheet 1", x.sheet(5, 7, 7), 1);
        for (int s = 2; s < 12; s++) due("sheet " + s, x.sheet(5, s, s), s);
        due("a thirteenth", x.sheet(0, 0, 1), FULL);
        due("BAD ahead of FULL", x.sheet(0, 2, 1), BAD);
        due("twelve stay", x.count(4), 12);
    }

    private static void together() {
        OrphanWave x = new OrphanWave();
        due("no sheets", x.together(-1, 0), BAD);
        x = withSheets(new int[] {0, 10, 20}, new int[] {1, 20, 30}, new int[] {1, 5, 9999}, new int[] {2, 31, 40});
        due("one", x.together(1, 0), 10);
        due("one", x.together(1, 1), 20);
        due("two at one year", x.together(3, 0), 20);
        due("two at one year", x.together(3, 1), 20);
        due("three", x.together(7, 1), 20);
        due("apart", x.together(10, 0), NONE);
        due("apart", x.together(10, 1), NONE);
        due("all", x.together(15, 0), NONE);
        due("from year 0", withSheets(new int[] {0, 0, 0}).together(1, 0), 0);
        due("those not there are left out", x.together(0x10 | 4, 0), 5);
        due("those not there are left out", x.together(Integer.MIN_VALUE | 4, 1), 9999);
        due("none there", x.together(0x10, 0), BAD);
        due("none there", x.together(Integer.MIN_VALUE, 0), BAD);
        due("no set", x.together(0, 0), BAD);
        due("what 2", x.together(1, 2), BAD);
        due("what -1", x.together(1, -1), BAD);
        due("BAD ahead of NONE", x.together(10, 2), BAD);
    }

    private static void slips() {
        due("no sheets", new OrphanWave().slips(), 0);
        due("one", withSheets(new int[] {0, 0, 5}).slips(), 1);
        due("one year for all", withSheets(new int[] {0, 0, 5}, new int[] {1, 5, 9}, new int[] {2, 3, 7}).slips(), 1);
        due("two years", withSheets(new int[] {0, 0, 5}, new int[] {1, 6, 9}, new int[] {2, 3, 7}).slips(), 2);
        due("as many as one marsh has", withSheets(new int[] {3, 0, 5}, new int[] {3, 0, 5}, new int[] {3, 1, 7}).slips(), 3);
        due("as many as the first marsh has", withSheets(new int[] {0, 0, 5}, new int[] {0, 0, 5}, new int[] {1, 1, 7}).slips(), 2);
        due("as many as the last marsh has", withSheets(new int[] {5, 0, 5}, new int[] {5, 0, 5}, new int[] {1, 1, 7}).slips(), 2);
        due("years are more", withSheets(new int[] {3, 0, 1}, new int[] {3, 0, 1}, new int[] {1, 2, 3},
                new int[] {2, 4, 5}).slips(), 3);
        due("the last span ends at 9999", withSheets(new int[] {0, 9999, 9999}, new int[] {1, 9998, 9998}).slips(), 2);
        OrphanWave twelve = new OrphanWave();
        for (int s = 0; s < 12; s++) twelve.sheet(s % 6, 100 * s, 100 * s + 99);
        due("twelve years", twelve.slips(), 12);
        due("the first of twelve", twelve.whole(0), 0);
        due("one of twelve", twelve.whole(1), 1);
        due("all of twelve", twelve.together(4095, 0), NONE);
        due("the twelfth", twelve.together(2048, 1), 1199);
    }

    private static void joined() {
        OrphanWave x = withSheets(new int[] {0, 10, 20}, new int[] {5, 20, 30}, new int[] {5, 15, 9999}, new int[] {2, 0, 0});
        due("year 0", x.joined(0), 4);
        due("year 1", x.joined(1), 0);
        due("year 9", x.joined(9), 0);
        due("year 10", x.joined(10), 1);
        due("year 20", x.joined(20), 33);
        due("year 21", x.joined(21), 32);
        due("year 9999", x.joined(9999), 32);
        due("year -1", x.joined(-1), BAD);
        due("year 10000", x.joined(10000), BAD);
        due("no sheets", new OrphanWave().joined(5), 0);
    }

    private static void whole() {
        OrphanWave none = new OrphanWave();
        due("no sheets", none.whole(0), NONE);
        due("no sheets", none.whole(1), NONE);
        due("BAD ahead of NONE", none.whole(2), BAD);
        OrphanWave x = withSheets(new int[] {0, 50, 60}, new int[] {0, 55, 58}, new int[] {0, 40, 70});
        due("one marsh is one", x.whole(0), 40);
        due("one marsh is one", x.whole(1), 1);
        x.sheet(1, 60, 60);
        due("two", x.whole(0), 60);
        due("two", x.whole(1), 2);
        x.sheet(2, 0, 45);
        due("two, the first year", x.whole(0), 40);
        due("two still", x.whole(1), 2);
        x.sheet(3, 41, 41);
        due("three", x.whole(0), 41);
        due("three", x.whole(1), 3);
        due("what -1", x.whole(-1), BAD);
        due("what 2", x.whole(2), BAD);
        due("year 0", withSheets(new int[] {0, 0, 9999}).whole(0), 0);
    }

    private static void tales() {
        OrphanWave x = new OrphanWave();
        due("first", x.tale(1700, 5, 20, 30, 0), 1550);
        due("last", x.tale(1700, 5, 20, 30, 1), 1600);
        due("no mothers", x.tale(9999, 0, 1, 99, 0), 9999);
        due("no mothers", x.tale(0, 0, 1, 99, 1), 0);
        due("below 0", x.tale(0, 50, 1, 99, 0), -4950);
        due("below 0", x.tale(0, 50, 1, 99, 1), -50);
        due("one age", x.tale(100, 2, 30, 30, 0), 40);
        int[][] refused = {{-1, 5, 20, 30, 0}, {10000, 5, 20, 30, 0}, {1700, -1, 20, 30, 0}, {1700, 51, 20, 30, 0},
            {1700, 5, 0, 30, 0}, {1700, 5, 20, 100, 0}, {1700, 5, 31, 30, 0}, {1700, 5, 20, 30, -1},
            {1700, 5, 20, 30, 2}, {1700, 0, 31, 30, 0},
            {Integer.MIN_VALUE, Integer.MAX_VALUE, 1, Integer.MAX_VALUE, 0}};
        for (int[] r : refused) due("tale", x.tale(r[0], r[1], r[2], r[3], r[4]), NO);
    }

    private static void known() {
        OrphanWave x = new OrphanWave();
        due("year -1", x.known(-1), BAD);
        due("year 10000", x.known(10000), BAD);
        due("year 0", x.known(0), 1);
        due("not later", x.known(0), BAD);
        for (int i = 2; i <= 16; i++) due("known " + i, x.known(i * 10), i);
        due("earlier", x.known(159), BAD);
        due("a seventeenth", x.known(161), FULL);
        due("BAD ahead of FULL", x.known(160), BAD);
        due("sixteen stay", x.count(5), 16);
        due("the last year", new OrphanWave().known(9999), 1);
    }

    private static void next() {
        OrphanWave x = withKnown(100, 200, 400, 700);
        due("w -1", x.next(-1, 0), NO);
        due("w 10000", x.next(10000, 0), NO);
        due("what -1", x.next(5, -1), NO);
        due("what 2", x.next(5, 2), NO);
        x.tune(2, 699);
        due("now is ahead", x.next(5, 0), NO);
        x.tune(2, 700);
        fraction(x, 0, 0, 1);
        fraction(x, 99, 0, 1);
        fraction(x, 100, 1, 3);
        fraction(x, 200, 2, 3);
        fraction(x, 300, 1, 1);
        fraction(x, 9999, 1, 1);
        x.tune(2, 800);
        fraction(x, 99, 0, 1);
        fraction(x, 100, 1, 2);
        x.tune(2, 999);
        fraction(x, 0, 0, 1);
        fraction(x, 1, 1, 1);
        x.tune(2, 1000);
        fraction(x, 0, 1, 1);
        due("one slip has no gap", withKnown(5).next(5, 0), NO);
        due("no slip has no gap", new OrphanWave().next(5, 0), NO);
        OrphanWave two = withKnown(0, 10);
        two.tune(2, 10);
        fraction(two, 9, 0, 1);
        fraction(two, 10, 1, 1);
        OrphanWave sixteen = new OrphanWave();
        for (int i = 0; i < 16; i++) sixteen.known(i * i);
        sixteen.tune(2, 225);
        fraction(sixteen, 5, 1, 5);
        OrphanWave five = withKnown(0, 10, 20, 40, 60);
        five.tune(2, 60);
        fraction(five, 10, 1, 2);
    }

    private static void fraction(OrphanWave x, int w, int upper, int lower) {
        due("next " + w + " upper", x.next(w, 0), upper);
        due("next " + w + " lower", x.next(w, 1), lower);
    }

    private static void even() {
        due("no slips", new OrphanWave().even(), NONE);
        due("one slip", withKnown(5).even(), NONE);
        due("one gap", withKnown(5, 9).even(), 1000);
        due("gaps of a year", withKnown(5, 6, 7).even(), 1000);
        due("1 by 3", withKnown(0, 1, 4).even(), 333);
        due("2 by 3", withKnown(0, 3, 5).even(), 666);
        due("1 by 9998", withKnown(0, 1, 9999).even(), 0);
        due("the greatest gap", withKnown(0, 9999).even(), 1000);
        due("the least in the middle", withKnown(0, 100, 150, 250).even(), 500);
    }
}
