/** Counts wrong answers of one test, and ends it. */
final class Check {
    private int asked;
    private int wrong;

    void due(String call, long got, long want) {
        asked++;
        if (got == want) return;
        wrong++;
        if (wrong <= 50) System.out.println(call + " answered " + got + ", due is " + want);
    }

    void holds(String what, boolean holds) {
        due(what, holds ? 1 : 0, 1);
    }

    void end(String test) {
        System.out.println(test + ": " + asked + " answers, " + wrong + " not as due");
        if (wrong != 0 || asked == 0) System.exit(1);
    }

    static void type(OrphanWave x, String text) {
        for (int i = 0; i < text.length(); i++) x.type(text.charAt(i), 1);
    }

    static OrphanWave withOcean(String text) {
        OrphanWave x = new OrphanWave();
        type(x, text);
        x.ocean();
        return x;
    }
}
