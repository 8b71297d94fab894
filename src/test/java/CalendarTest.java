/** Promises 13 to 15: calendars by text, clock, told. */
final class CalendarTest {
    private static final int NO = -1000000;
    private static final String TWELVE = "29 30 29 30 29 30 29 30 29 30 29 30 ";
    private static final Check CHECK = new Check();

    public static void main(String[] args) {
        calendars();
        faults();
        manyTexts();
        noCalendar();
        clocks();
        told();
        everyHour();
        longest();
        CHECK.end("CalendarTest");
    }

    private static void due(String call, long got, long want) {
        CHECK.due(call, got, want);
    }

    private static OrphanWave withCalendar(String text) {
        OrphanWave x = new OrphanWave();
        Check.type(x, text);
        x.calendar();
        return x;
    }

    private static void calendars() {
        reads("", 0);
        reads("    ", 0);
        reads(TWELVE + ";", 1);
        reads(TWELVE + "30;", 1);
        reads("  " + TWELVE + "  30   ;  ", 1);
        reads(TWELVE + ";" + TWELVE + "29;" + TWELVE + ";", 3);
        reads(repeat(TWELVE + "30;", 8), 8);
        reads(repeat(TWELVE + ";", 8) + "   ", 8);
    }

    private static void reads(String text, int years) {
        OrphanWave x = withCalendar(TWELVE + ";" + TWELVE + ";");
        Check.type(x, text);
        due("calendar by '" + text + "'", x.calendar(), years);
        due("its years", x.count(2), years);
        due("its text", x.count(7), 0);
    }

    private static void faults() {
        fault("29", 2);
        fault("29 ", 3);
        fault(TWELVE, 36);
        fault(TWELVE + "30", 38);
        fault(";", 0);
        fault(" ;", 1);
        fault(TWELVE.substring(3) + ";", 33);
        fault(TWELVE + "30 29;", 39);
        fault(TWELVE + "30 x;", 39);
        fault(TWELVE + ";;", 37);
        fault(TWELVE + "; 29", 40);
        fault("28 ;", 0);
        fault("29 31 ;", 3);
        fault("0 ;", 0);
        fault("2 ;", 0);
        fault("9", 0);
        fault("029 ;", 0);
        fault("29 030 ;", 3);
        fault("290 ;", 0);
        fault("2930;", 0);
        fault("29 4294967325;", 3);
        fault("29 4294967296000000000000029;", 3);
        fault("29x", 2);
        fault("x", 0);
        fault("29,30", 2);
        fault("-29", 0);
        fault("29\n", 2);
        fault("29" + (char) 0, 2);
        fault("29" + (char) 160, 2);
        fault("29 / ", 3);
        fault("29 : ", 3);
        fault(repeat(TWELVE + ";", 8) + "29", 8 * 37);
        fault(repeat(TWELVE + ";", 8) + " ;", 8 * 37 + 1);
        fault(repeat(TWELVE + ";", 8) + "  x", 8 * 37 + 2);
    }

    private static void fault(String text, int place) {
        OrphanWave x = withCalendar(TWELVE + ";" + TWELVE + "30;");
        Check.type(x, text);
        due("calendar by '" + text + "'", x.calendar(), -10 - place);
        due("its text stays", x.count(7), text.length());
        due("its years stay", x.count(2), 2);
        due("its months stay", x.clock(1, 12, 29, 0), (354 + 354 + 29) * 1440 - 60);
        due("cleared", x.clear(), text.length());
    }

    /** Nothing of an earlier text, good or not, is left in a later calendar. */
    private static void manyTexts() {
        OrphanWave x = withCalendar(repeat(TWELVE + "30;", 3));
        Check.type(x, repeat(TWELVE + "30;", 4));
        due("four years", x.calendar(), 4);
        Check.type(x, repeat(TWELVE + "30;", 2) + "x");
        due("no calendar", x.calendar(), -10 - 2 * 39);
        due("four years still", x.count(2), 4);
        due("the fourth year", x.clock(3, 12, 0, 0), (3 * 384 + 354) * 1440 - 60);
        x.clear();
        Check.type(x, TWELVE + ";");
        due("one year", x.calendar(), 1);
        due("no second year", x.clock(1, 0, 0, 0), NO);
        due("no thirteenth month", x.clock(0, 12, 0, 0), NO);
        due("the year's end", x.told(354 * 1440 - 61, 1), 11);
        due("behind it", x.told(354 * 1440 - 60, 1), NO);
    }

    private static void noCalendar() {
        OrphanWave x = new OrphanWave();
        due("clock without", x.clock(0, 0, 0, 0), NO);
        for (int what = 0; what <= 3; what++) {
            due("told without", x.told(0, what), NO);
            due("told without", x.told(-60, what), NO);
        }
    }

    private static void clocks() {
        OrphanWave x = withCalendar(TWELVE + ";" + TWELVE + "30;");
        due("first hour", x.clock(0, 0, 0, 0), -60);
        due("last hour of a day", x.clock(0, 0, 0, 11), 1260);
        due("next day", x.clock(0, 0, 1, 0), 1380);
        due("last day of the first month", x.clock(0, 0, 28, 0), 28 * 1440 - 60);
        due("no 30th day there", x.clock(0, 0, 29, 0), NO);
        due("30th day of the second month", x.clock(0, 1, 29, 0), 58 * 1440 - 60);
        due("no 31st day", x.clock(0, 1, 30, 0), NO);
        due("no 13th month", x.clock(0, 12, 0, 0), NO);
        due("13th month", x.clock(1, 12, 0, 3), 708 * 1440 + 300);
        due("no 14th month", x.clock(1, 13, 0, 0), NO);
        int[] wrong = {-1, Integer.MIN_VALUE, Integer.MAX_VALUE, 30};
        for (int w : wrong) {
            due("year " + w, x.clock(w, 0, 0, 0), NO);
            due("month " + w, x.clock(0, w, 0, 0), NO);
            due("day " + w, x.clock(0, 0, w, 0), NO);
            due("hour " + w, x.clock(0, 0, 0, w), NO);
        }
        due("year 2", x.clock(2, 0, 0, 0), NO);
        due("hour 12", x.clock(0, 0, 0, 12), NO);
    }

    private static void told() {
        OrphanWave x = withCalendar(TWELVE + ";");
        int end = 354 * 1440 - 60;
        for (int what = 0; what <= 3; what++) {
            due("ahead of it", x.told(-61, what), NO);
            due("behind it", x.told(end, what), NO);
            due("far ahead", x.told(Integer.MIN_VALUE, what), NO);
            due("far behind", x.told(Integer.MAX_VALUE, what), NO);
            due("first", x.told(-60, what), 0);
        }
        due("last year", x.told(end - 1, 0), 0);
        due("last month", x.told(end - 1, 1), 11);
        due("last day", x.told(end - 1, 2), 29);
        due("last hour", x.told(end - 1, 3), 11);
        due("what -1", x.told(0, -1), NO);
        due("what 4", x.told(0, 4), NO);
    }

    /** What clock() tells, told() tells back, at both ends of the hour. */
    private static void everyHour() {
        String text = TWELVE + ";" + TWELVE + "29;" + TWELVE + "30;";
        int[] months = {12, 13, 13};
        int clock = -60;
        OrphanWave x = null;
        for (int y = 0; y < 3; y++) {
            for (int m = 0; m < months[y]; m++) {
                int days = m == 12 ? (y == 1 ? 29 : 30) : m % 2 == 0 ? 29 : 30;
                for (int d = 0; d < days; d++) {
                    // A day's calls are some hundred; an object answers for 512.
                    x = withCalendar(text);
                    for (int h = 0; h < 12; h++) {
                        due("clock", x.clock(y, m, d, h), clock);
                        tells(x, clock, y, m, d, h);
                        tells(x, clock + 119, y, m, d, h);
                        clock += 120;
                    }
                }
                due("behind the month", x.clock(y, m, days, 0), NO);
            }
        }
        due("behind all", x.told(clock, 0), NO);
    }

    private static void longest() {
        OrphanWave x = withCalendar(repeat("30 ".repeat(13) + ";", 8));
        int end = 8 * 390 * 1440 - 60;
        tells(x, end - 1, 7, 12, 29, 11);
        due("the last hour's begin", x.clock(7, 12, 29, 11), end - 120);
        for (int what = 0; what <= 3; what++) due("behind eight years", x.told(end, what), NO);
        due("no ninth year", x.clock(8, 0, 0, 0), NO);
    }

    private static void tells(OrphanWave x, int minute, int year, int month, int day, int hour) {
        due("year at " + minute, x.told(minute, 0), year);
        due("month at " + minute, x.told(minute, 1), month);
        due("day at " + minute, x.told(minute, 2), day);
        due("hour at " + minute, x.told(minute, 3), hour);
    }

    private static String repeat(String text, int n) {
        return text.repeat(n);
    }
}
