import java.util.ArrayList;
import java.util.List;

/**
 * Asks an object for all that it holds, so that two objects which differ in anything that the
 * document tells of answer differently. It changes the object; that one is of no use behind it.
 */
final class Probe {
    private final Calls calls;
    private final List<Long> answers = new ArrayList<>();

    private Probe(Calls calls) {
        this.calls = calls;
    }

    static List<Long> of(Calls calls) {
        Probe probe = new Probe(calls);
        for (int what = 0; what <= 7; what++) probe.ask("count", what);
        probe.ask("trace");
        probe.oceanAndTunes();
        probe.textAndCalendar();
        probe.trees();
        probe.chances();
        probe.findings();
        if (probe.ask("back", 0) >= 0) probe.findings();
        if (probe.ask("back", 1) >= 0) probe.findings();
        return probe.answers;
    }

    private long ask(String name, long... numbers) {
        long answer = calls.ask(name, numbers);
        answers.add(answer);
        return answer;
    }

    private void oceanAndTunes() {
        for (int cell = 0; cell < 48; cell++) ask("depth", cell);
        for (int what = 0; what <= 4; what++) ask("whence", what);
        ask("ways", -1);
        ask("next", 50, 0);
        ask("next", 50, 1);
        for (int what = 0; what <= 2; what++) ask("tune", what, 1);
    }

    /** Where THE TEXT has a fault, as an ocean and as a calendar, tells of its bytes. */
    private void textAndCalendar() {
        for (int year = 0; year < 8; year++) {
            ask("clock", year, 0, 29, 0);
            ask("clock", year, 11, 29, 0);
            ask("clock", year, 12, 29, 0);
        }
        ask("told", 300000, 2);
        if (ask("ocean") < -9) ask("calendar");
        ask("clear");
    }

    private void trees() {
        for (int w = 0; w < 4; w++) {
            for (int what = 0; what <= 2; what++) ask("died", w, what);
            ask("like", w, 0);
            ask("like", w, 1);
        }
        ask("alike");
        for (int w = 0; w < 4; w++) ask("felled", w, 0);
        // Two woods of two rings find the first place where living trees grow wider, and less.
        for (int width = 1; width <= 2; width++) {
            ask("wood", 0, width);
            ask("wood", 1, 3 - width);
        }
        ask("died", 0, 1);
        ask("died", 1, 1);
        // One ring more, to see how wide the last one was.
        long rings = ask("ring", 50);
        ask("like", 0, rings - 2);
        ask("like", 1, rings - 2);
        ask("living", 0);
    }

    private void chances() {
        ask("dig");
        for (int s = 0; s < 5; s++) for (int marsh = 0; marsh < 6; marsh++) ask("chance", s, marsh, 5);
    }

    /** What images keep. */
    private void findings() {
        ask("count", 1);
        ask("count", 5);
        ask("whence", 3);
        ask("ways", -1);
        long sheets = ask("count", 4);
        for (int s = 0; s < sheets; s++) {
            ask("trust", 0, s);
            ask("together", 1 << s, 0);
            ask("together", 1 << s, 1);
        }
        knownSlips();
        for (int s = 0; s < 5; s++) ask("story", s, 1);
        for (int marsh = 0; marsh < 6; marsh++) ask("dug", marsh, 1);
    }

    private void knownSlips() {
        ask("even");
        ask("known", 0);
        boolean more = ask("known", 9999) > 0;
        ask("tune", 2, 9999);
        // The greatest gap is that from the last slip to 9999; where none can be added, the
        // last slip is the first year of NOW that is not ahead of it.
        long low = 0;
        long high = 9999;
        while (low < high) {
            long middle = (low + high) / 2;
            boolean reached = more ? ask("next", middle, 0) == 1 && ask("next", middle, 1) == 1 : isBehind(middle);
            if (reached) high = middle;
            else low = middle + 1;
        }
    }

    private boolean isBehind(long year) {
        ask("tune", 2, year);
        return ask("next", 0, 0) >= 0;
    }
}
