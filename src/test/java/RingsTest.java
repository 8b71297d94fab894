/** Promises 16 to 22: rings of living trees and of woods. */
final class RingsTest {
    private static final int BAD = -1, FULL = -3, NONE = -9;
    private static final Check CHECK = new Check();

    public static void main(String[] args) {
        rings();
        woods();
        likes();
        deaths();
        alike();
        CHECK.end("RingsTest");
    }

    private static void due(String call, long got, long want) {
        CHECK.due(call, got, want);
    }

    private static void grow(OrphanWave x, int... widths) {
        for (int width : widths) x.ring(width);
    }

    private static void cut(OrphanWave x, int w, int end, int... widths) {
        x.felled(w, end);
        for (int width : widths) x.wood(w, width);
    }

    private static void rings() {
        OrphanWave x = new OrphanWave();
        due("width -1", x.ring(-1), BAD);
        due("width 100", x.ring(100), BAD);
        due("width max", x.ring(Integer.MAX_VALUE), BAD);
        for (int i = 1; i <= 60; i++) due("ring " + i, x.ring(i == 1 ? 0 : i == 2 ? 99 : i), i);
        due("a 61st", x.ring(5), FULL);
        due("BAD ahead of FULL", x.ring(100), BAD);
        due("60 stay", x.count(3), 60);
        due("year -1", x.living(-1), BAD);
        due("year 10000", x.living(10000), BAD);
        due("60 stay still", x.count(3), 60);
        due("anew", x.living(0), 60);
        due("none", x.count(3), 0);
        due("anew again", x.living(9999), 0);
        due("first", x.ring(5), 1);
        due("second", x.ring(6), 2);
        cut(x, 0, 0, 1, 2);
        due("the year goes on", x.died(0, 1), 10000);
        due("anew with two", x.living(7), 2);
        grow(x, 5, 6);
        due("the year is told", x.died(0, 1), 8);
    }

    private static void woods() {
        OrphanWave x = new OrphanWave();
        int[] wrong = {-1, 4, Integer.MIN_VALUE, Integer.MAX_VALUE};
        for (int w : wrong) {
            due("wood " + w, x.wood(w, 5), BAD);
            due("felled " + w, x.felled(w, 0), BAD);
            due("like " + w, x.like(w, 0), BAD);
            due("died " + w, x.died(w, 0), BAD);
        }
        due("width -1", x.wood(0, -1), BAD);
        due("width 100", x.wood(0, 100), BAD);
        due("end -1", x.felled(0, -1), BAD);
        due("end 2", x.felled(0, 2), BAD);
        for (int i = 1; i <= 30; i++) due("ring " + i, x.wood(3, i == 1 ? 0 : 99), i);
        due("a 31st", x.wood(3, 5), FULL);
        due("BAD ahead of FULL", x.wood(3, 100), BAD);
        due("another wood", x.wood(2, 5), 1);
        due("felled", x.felled(3, 1), 30);
        due("felled anew", x.felled(3, 0), 0);
        due("first again", x.wood(3, 5), 1);
        due("the other stays", x.felled(2, 0), 1);
        due("living have none of these", x.count(3), 0);
    }

    private static void likes() {
        OrphanWave x = new OrphanWave();
        grow(x, 5, 6, 6, 4, 9);
        cut(x, 0, 0, 1, 2, 2);
        due("wider, as wide", x.like(0, 0), 2);
        due("as wide, less", x.like(0, 1), 0);
        due("less, wider", x.like(0, 2), 0);
        due("one too far", x.like(0, 3), BAD);
        due("k -1", x.like(0, -1), BAD);
        due("k max", x.like(0, Integer.MAX_VALUE), BAD);
        due("k min", x.like(0, Integer.MIN_VALUE), BAD);
        cut(x, 1, 0, 9, 3);
        due("less", x.like(1, 2), 1);
        due("less on wider", x.like(1, 3), 0);
        due("the last place", x.like(1, 4), BAD);
        cut(x, 2, 0, 7);
        due("one ring lies nowhere", x.like(2, 0), BAD);
        due("no ring lies nowhere", x.like(3, 0), BAD);
        cut(x, 3, 0, 1, 2, 3, 4, 5, 6);
        due("more than living", x.like(3, 0), BAD);
        cut(x, 3, 0, 1, 1, 1, 0, 5);
        due("as many as living", x.like(3, 0), 3);
    }

    private static void deaths() {
        OrphanWave x = new OrphanWave();
        for (int what = 0; what <= 2; what++) due("no rings", x.died(0, what), NONE);
        x.living(500);
        grow(x, 5, 6, 6, 4, 9, 9);
        cut(x, 0, 1, 1, 2, 2);
        due("the first of two", x.died(0, 0), 0);
        due("its year", x.died(0, 1), 502);
        due("its end", x.died(0, 2), 1);
        cut(x, 1, 0, 5, 2, 3, 3);
        due("the best", x.died(1, 0), 2);
        due("its year", x.died(1, 1), 505);
        due("its end", x.died(1, 2), 0);
        cut(x, 2, 1, 5);
        for (int what = 0; what <= 2; what++) due("one ring", x.died(2, what), NONE);
        cut(x, 2, 1, 1, 2, 3, 4, 5, 6, 7);
        for (int what = 0; what <= 2; what++) due("more than living", x.died(2, what), NONE);
        cut(x, 2, 1, 9, 8);
        due("laid where less", x.died(2, 0), 2);
        x.living(500);
        grow(x, 1, 2, 3);
        due("nothing alike is laid first", x.died(2, 0), 0);
        due("its year", x.died(2, 1), 501);
        due("what -1", x.died(0, -1), BAD);
        due("what 3", x.died(0, 3), BAD);
        due("BAD ahead of NONE", x.died(3, 3), BAD);
    }

    private static void alike() {
        OrphanWave x = new OrphanWave();
        due("no woods", x.alike(), NONE);
        grow(x, 5, 6, 6, 4, 9, 9);
        due("no woods yet", x.alike(), NONE);
        cut(x, 2, 0, 1, 2, 2);
        due("one wood", x.alike(), 1002);
        cut(x, 1, 0, 3, 3);
        due("another of that year", x.alike(), 1002);
        cut(x, 1, 1, 3, 3);
        due("another end", x.alike(), NONE);
        cut(x, 2, 1, 1, 2, 2);
        due("both ends begun", x.alike(), 1002);
        cut(x, 0, 0, 3);
        due("a wood that can't be laid", x.alike(), 1002);
        cut(x, 0, 1, 4, 3);
        due("another year", x.alike(), NONE);
        x.felled(0, 0);
        due("without it", x.alike(), 1002);
    }
}
