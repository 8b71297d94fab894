/** The probe tells apart two objects that differ in one thing: else a twin would see nothing. */
final class ProbeTest {
    private static final String SEA = "99999999;99999999;99999999;99999999;99999999;99999999;";
    private static final String YEAR = "29 30 29 30 29 30 29 30 29 30 29 30;";
    private static final String LEAP = "29 30 29 30 29 30 29 30 29 30 29 30 30;";
    private static final Check CHECK = new Check();

    /** A call and others that differ from it in one number. */
    private static final String[][] APART = {
        {"book 9 10 20 30 40", "book 10 10 20 30 40", "book 9 11 20 30 40", "book 9 10 21 30 40", "book 9 10 20 31 40",
            "book 9 10 20 30 41"},
        {"sheet 2 10 20", "sheet 3 10 20", "sheet 2 11 20", "sheet 2 10 21"},
        {"tune 0 4", "tune 0 5", "tune 1 4", "tune 2 4"},
        {"known 100", "known 101"},
        {"ring 5", "ring 60", "living 7", "living 8"},
        {"wood 2 5", "wood 2 9", "wood 1 5", "felled 2 1", "felled 1 1"},
        {"story 1 5", "story 1 6", "story 2 5"},
        {"chance 1 2 6", "chance 1 2 7", "chance 1 3 6", "chance 2 2 6"},
        {"dug 1 1", "dug 2 1", "dug 4 1", "dug 4 0"},
        {"trust 0 0", "trust 1 0"},
        {"keep 0", "keep 1"},
        {"type 49 1", "type 50 2", "type 120 1", "clear"}};

    public static void main(String[] args) {
        for (String[] group : APART) {
            differ("", group[0]);
            for (int i = 1; i < group.length; i++) {
                differ("", group[i]);
                differ(group[0], group[i]);
                // The same in an image, once the living state has gone back to another one.
                if (keptByImages(group[0])) differ(group[0] + ",keep 0,back 1", group[i] + ",keep 0,back 1");
            }
        }
        texts();
        CHECK.end("ProbeTest");
    }

    private static boolean keptByImages(String call) {
        return call.matches("(book|sheet|known|story|dug) .*");
    }

    private static Calls begun() {
        Calls calls = new Calls();
        calls.type(SEA);
        calls.ask("ocean");
        calls.ask("keep", 1);
        calls.ask("sheet", 1, 5, 300);
        calls.ask("known", 50);
        calls.ask("chance", 3, 4, 9);
        for (int width : new int[] {5, 6, 6, 4}) calls.ask("ring", width);
        for (int w = 0; w < 4; w++) {
            calls.ask("wood", w, 5);
            calls.ask("wood", w, 6);
        }
        calls.type("12");
        return calls;
    }

    private static void differ(String some, String others) {
        Calls one = begun();
        Calls other = begun();
        askAll(one, some);
        askAll(other, others);
        CHECK.holds("'" + some + "' is apart from '" + others + "'", !Probe.of(one).equals(Probe.of(other)));
        CHECK.holds("calls: " + other.made(), other.made() <= Calls.MOST);
    }

    private static void askAll(Calls calls, String all) {
        for (String call : all.split(",")) {
            if (call.isEmpty()) continue;
            String[] words = call.split(" ");
            long[] numbers = new long[words.length - 1];
            for (int i = 0; i < numbers.length; i++) numbers[i] = Long.parseLong(words[i + 1]);
            calls.ask(words[0], numbers);
        }
    }

    private static void texts() {
        read("calendar", YEAR, LEAP);
        read("calendar", YEAR + LEAP, LEAP + YEAR);
        read("calendar", YEAR.repeat(7) + YEAR, YEAR.repeat(7) + LEAP);
        read("ocean", SEA, SEA.replaceFirst("9", "8"));
        read("ocean", SEA, SEA.substring(0, 52) + "0;");
    }

    private static void read(String as, String some, String others) {
        Calls one = new Calls();
        Calls other = new Calls();
        one.type(some);
        one.ask(as);
        other.type(others);
        other.ask(as);
        CHECK.holds(as + " '" + some + "' is apart from '" + others + "'", !Probe.of(one).equals(Probe.of(other)));
    }
}
