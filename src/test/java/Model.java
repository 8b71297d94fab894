import java.math.BigInteger;
import java.util.ArrayList;
import java.util.Arrays;
import java.util.List;
import java.util.TreeSet;

/**
 * The document once more, by other means: years, begins and ways are tried one by one,
 * numbers are as great as they like, and lists are copied whole. Slow, and made to be plain.
 */
public final class Model {
    private static final int BAD = -1, STATE = -2, FULL = -3, NONE = -9, NO = -1000000;

    private record Book(int cell, int from, int to, int low, int high) { }

    private record Sheet(int marsh, int old, int young) {
        boolean has(int year) {
            return old <= year && year <= young;
        }
    }

    private record Image(List<Book> books, List<Sheet> sheets, List<Integer> known, List<BigInteger> weights,
            TreeSet<Integer> dug) { }

    private String text = "";
    private int[] depths = new int[48];
    private int[][] times;
    private final int[] tunes = {3, 100, 2000};
    private List<Book> books = new ArrayList<>();
    private List<List<Integer>> calendar = new ArrayList<>();
    private List<Integer> rings = new ArrayList<>();
    private int firstYear = 1000;
    private final List<List<Integer>> woods = new ArrayList<>();
    private final int[] ends = new int[4];
    private List<Sheet> sheets = new ArrayList<>();
    private List<Integer> known = new ArrayList<>();
    private List<BigInteger> weights = new ArrayList<>();
    private final int[][] chances = new int[5][6];
    private TreeSet<Integer> dug = new TreeSet<>();
    private final Image[] images = new Image[2];
    private long trace;

    public Model() {
        for (int w = 0; w < 4; w++) woods.add(new ArrayList<>());
        for (int s = 0; s < 5; s++) weights.add(BigInteger.ONE);
        for (int[] row : chances) Arrays.fill(row, 5);
    }

    private static boolean in(int v, int low, int high) {
        return low <= v && v <= high;
    }

    public int type(long v, int n) {
        if (!in(n, 1, 8)) return BAD;
        if (text.length() + n > 400) return FULL;
        String more = "";
        for (int i = 0; i < n; i++) more = (char) ((v >> 8 * i) & 0xff) + more;
        text += more;
        return text.length();
    }

    public int clear() {
        int had = text.length();
        text = "";
        return had;
    }

    public int ocean() {
        String wanted = "dddddddd;".repeat(6);
        StringBuilder figures = new StringBuilder();
        int place = 0;
        for (int i = 0; i < text.length(); i++) {
            char c = text.charAt(i);
            if (c == ' ') continue;
            char want = place < wanted.length() ? wanted.charAt(place) : 'x';
            if (want == 'd' && c >= '0' && c <= '9') figures.append(c);
            else if (!(want == ';' && c == ';')) return -10 - i;
            place++;
        }
        if (place < wanted.length()) return -10 - text.length();
        for (int cell = 0; cell < 48; cell++) depths[cell] = figures.charAt(cell) - '0';
        times = null;
        text = "";
        return count(0);
    }

    public int depth(int cell) {
        return in(cell, 0, 47) ? depths[cell] : BAD;
    }

    public int tune(int what, int v) {
        int[] low = {1, 1, 0};
        int[] high = {9, 999, 9999};
        if (!in(what, 0, 2) || !in(v, low[what], high[what])) return BAD;
        int was = tunes[what];
        tunes[what] = v;
        times = null;
        return was;
    }

    private boolean sea(int cell) {
        return in(cell, 0, 47) && depths[cell] > 0;
    }

    private int[][] allTimes() {
        if (times != null) return times;
        int far = 1000000;
        int[][] t = new int[48][48];
        for (int a = 0; a < 48; a++) {
            for (int b = 0; b < 48; b++) {
                int apart = Math.abs(a / 8 - b / 8) + Math.abs(a % 8 - b % 8);
                t[a][b] = far;
                if (!sea(a) || !sea(b)) continue;
                if (apart == 0) t[a][b] = 0;
                if (apart == 1) t[a][b] = tunes[0] * (10 - depths[b]);
            }
        }
        for (int m = 0; m < 48; m++)
            for (int a = 0; a < 48; a++)
                for (int b = 0; b < 48; b++) t[a][b] = Math.min(t[a][b], t[a][m] + t[m][b]);
        for (int[] row : t) for (int b = 0; b < 48; b++) if (row[b] >= far) row[b] = NONE;
        times = t;
        return t;
    }

    public int time(int from, int to) {
        if (!in(from, 0, 47) || !in(to, 0, 47)) return BAD;
        return allTimes()[from][to];
    }

    public int height(int from, int size, int to) {
        if (!in(from, 0, 47) || !in(to, 0, 47) || !in(size, 1, 99)) return BAD;
        int time = time(from, to);
        if (time == NONE) return NONE;
        int h = size * tunes[1] / (tunes[1] + time);
        return depths[to] == 1 || depths[to] == 2 ? h + h : h;
    }

    public int book(int cell, int from, int to, int low, int high) {
        if (!sea(cell) || !in(from, -9999, 9999) || !in(to, -9999, 9999) || from > to) return BAD;
        if (!in(low, 0, 999) || !in(high, 0, 999) || low > high) return BAD;
        if (books.size() == 6) return FULL;
        books.add(new Book(cell, from, to, low, high));
        return books.size() - 1;
    }

    private boolean hoursAre(int cell, int begin) {
        for (Book b : books) {
            int time = time(cell, b.cell);
            if (time == NONE || begin + time < b.from || begin + time > b.to) return false;
        }
        return true;
    }

    private boolean heightsAre(int cell, int size) {
        for (Book b : books) {
            int h = height(cell, size, b.cell);
            if (h == NONE || h < b.low || h > b.high) return false;
        }
        return true;
    }

    private List<Integer> beginsOf(int cell) {
        int first = 0;
        int last = 0;
        for (Book b : books) {
            first = Math.min(first, b.from - 4000);
            last = Math.max(last, b.to);
        }
        List<Integer> all = new ArrayList<>();
        for (int begin = first; begin <= last; begin++) if (hoursAre(cell, begin)) all.add(begin);
        return all;
    }

    private List<Integer> sizesOf(int cell) {
        List<Integer> all = new ArrayList<>();
        for (int size = 1; size <= 99; size++) if (heightsAre(cell, size)) all.add(size);
        return all;
    }

    public int begins(int cell, int size) {
        if (!sea(cell) || !in(size, 1, 99)) return BAD;
        if (books.isEmpty()) return NONE;
        return heightsAre(cell, size) ? beginsOf(cell).size() : 0;
    }

    public int ways(int cell) {
        if (cell != -1 && !sea(cell)) return BAD;
        if (books.isEmpty()) return NONE;
        if (cell != -1) return sizesOf(cell).size() * beginsOf(cell).size();
        int sum = 0;
        for (int c = 0; c < 48; c++) if (sea(c)) sum += ways(c);
        return sum;
    }

    public int whence(int what) {
        if (!in(what, 0, 4) || books.isEmpty()) return NO;
        int best = NO;
        int most = 0;
        for (int c = 47; c >= 0; c--) {
            int n = sea(c) ? ways(c) : 0;
            if (n > 0 && n >= most) {
                most = n;
                best = c;
            }
        }
        if (best == NO || what == 0) return best;
        List<Integer> sizes = sizesOf(best);
        List<Integer> begins = beginsOf(best);
        return switch (what) {
            case 1 -> sizes.get(0);
            case 2 -> sizes.get(sizes.size() - 1);
            case 3 -> begins.get(0);
            default -> begins.get(begins.size() - 1);
        };
    }

    public int calendar() {
        List<List<Integer>> read = new ArrayList<>();
        List<Integer> item = new ArrayList<>();
        int i = 0;
        while (i < text.length()) {
            int at = i;
            String token = "" + text.charAt(i++);
            if (token.equals(" ")) continue;
            while (token.matches("[0-9]+") && i < text.length() && ("" + text.charAt(i)).matches("[0-9]")) {
                token += text.charAt(i++);
            }
            if (read.size() == 8) return -10 - at;
            if (token.equals(";") && item.size() >= 12) {
                read.add(item);
                item = new ArrayList<>();
            } else if ((token.equals("29") || token.equals("30")) && item.size() < 13) {
                item.add(Integer.valueOf(token));
            } else {
                return -10 - at;
            }
        }
        if (!item.isEmpty()) return -10 - text.length();
        calendar = read;
        text = "";
        return read.size();
    }

    /** Every day of THE CALENDAR in order: its YEAR, MONTH and DAY. */
    private List<int[]> days() {
        List<int[]> all = new ArrayList<>();
        for (int y = 0; y < calendar.size(); y++)
            for (int m = 0; m < calendar.get(y).size(); m++)
                for (int d = 0; d < calendar.get(y).get(m); d++) all.add(new int[] {y, m, d});
        return all;
    }

    public int clock(int year, int month, int day, int hour) {
        List<int[]> days = days();
        for (int i = 0; i < days.size(); i++) {
            if (Arrays.equals(days.get(i), new int[] {year, month, day}) && in(hour, 0, 11)) {
                return 24 * 60 * i + 120 * hour - 60;
            }
        }
        return NO;
    }

    public int told(int minute, int what) {
        List<int[]> days = days();
        long hours = Math.floorDiv(minute + 60L, 120L);
        if (hours < 0 || hours >= days.size() * 12L || !in(what, 0, 3)) return NO;
        return what == 3 ? (int) (hours % 12) : days.get((int) (hours / 12))[what];
    }

    public int ring(int width) {
        if (!in(width, 0, 99)) return BAD;
        if (rings.size() == 60) return FULL;
        rings.add(width);
        return rings.size();
    }

    public int living(int year) {
        if (!in(year, 0, 9999)) return BAD;
        int had = rings.size();
        rings = new ArrayList<>();
        firstYear = year;
        return had;
    }

    public int wood(int w, int width) {
        if (!in(w, 0, 3) || !in(width, 0, 99)) return BAD;
        if (woods.get(w).size() == 30) return FULL;
        woods.get(w).add(width);
        return woods.get(w).size();
    }

    public int felled(int w, int end) {
        if (!in(w, 0, 3) || !in(end, 0, 1)) return BAD;
        int had = woods.get(w).size();
        woods.set(w, new ArrayList<>());
        ends[w] = end;
        return had;
    }

    private static String sorts(List<Integer> widths) {
        StringBuilder all = new StringBuilder();
        for (int i = 1; i < widths.size(); i++) {
            int change = widths.get(i) - widths.get(i - 1);
            all.append(change > 0 ? 'w' : change < 0 ? 'l' : '=');
        }
        return all.toString();
    }

    public int like(int w, int k) {
        if (!in(w, 0, 3) || woods.get(w).size() < 2 || k < 0 || (long) k + woods.get(w).size() > rings.size()) return BAD;
        String own = sorts(woods.get(w));
        String there = sorts(rings.subList(k, k + woods.get(w).size()));
        int n = 0;
        for (int i = 0; i < own.length(); i++) if (own.charAt(i) == there.charAt(i)) n++;
        return n;
    }

    public int died(int w, int what) {
        if (!in(w, 0, 3) || !in(what, 0, 2)) return BAD;
        int laid = NONE;
        for (int k = 59; k >= 0; k--) {
            if (like(w, k) == BAD) continue;
            if (laid == NONE || like(w, k) >= like(w, laid)) laid = k;
        }
        if (laid == NONE) return NONE;
        return what == 0 ? laid : what == 1 ? firstYear + laid + woods.get(w).size() - 1 : ends[w];
    }

    public int alike() {
        TreeSet<Integer> years = new TreeSet<>();
        TreeSet<Integer> seasons = new TreeSet<>();
        for (int w = 0; w < 4; w++) {
            if (died(w, 0) == NONE) continue;
            years.add(died(w, 1));
            seasons.add(died(w, 2));
        }
        return years.size() == 1 && seasons.size() == 1 ? years.first() : NONE;
    }

    public int sheet(int marsh, int old, int young) {
        if (!in(marsh, 0, 5) || !in(old, 0, 9999) || !in(young, 0, 9999) || old > young) return BAD;
        if (sheets.size() == 12) return FULL;
        sheets.add(new Sheet(marsh, old, young));
        return sheets.size() - 1;
    }

    public int together(int set, int what) {
        List<Sheet> some = new ArrayList<>();
        for (int s = 0; s < sheets.size(); s++) if ((set & 1 << s) != 0) some.add(sheets.get(s));
        if (some.isEmpty() || !in(what, 0, 1)) return BAD;
        int first = NONE;
        int last = NONE;
        for (int year = 0; year <= 9999; year++) {
            boolean all = true;
            for (Sheet s : some) all &= s.has(year);
            if (!all) continue;
            if (first == NONE) first = year;
            last = year;
        }
        return what == 0 ? first : last;
    }

    public int slips() {
        int fewest = sheets.size();
        for (int set = 0; set < 1 << sheets.size(); set++) {
            boolean all = true;
            for (Sheet s : sheets) {
                boolean one = false;
                for (int y = 0; y < sheets.size(); y++) if ((set >> y & 1) == 1) one |= s.has(sheets.get(y).young);
                all &= one;
            }
            if (all) fewest = Math.min(fewest, Integer.bitCount(set));
        }
        int[] of = new int[6];
        for (Sheet s : sheets) fewest = Math.max(fewest, ++of[s.marsh]);
        return fewest;
    }

    public int joined(int year) {
        if (!in(year, 0, 9999)) return BAD;
        int bits = 0;
        for (Sheet s : sheets) if (s.has(year)) bits |= 1 << s.marsh;
        return bits;
    }

    public int whole(int what) {
        if (!in(what, 0, 1)) return BAD;
        if (sheets.isEmpty()) return NONE;
        int best = 0;
        for (int year = 0; year <= 9999; year++) {
            if (Integer.bitCount(joined(year)) > Integer.bitCount(joined(best))) best = year;
        }
        return what == 0 ? best : Integer.bitCount(joined(best));
    }

    public int tale(int year, int n, int low, int high, int what) {
        if (!in(year, 0, 9999) || !in(n, 0, 50) || !in(low, 1, 99) || !in(high, 1, 99) || low > high) return NO;
        if (!in(what, 0, 1)) return NO;
        int told = year;
        for (int mother = 0; mother < n; mother++) told -= what == 0 ? high : low;
        return told;
    }

    public int known(int year) {
        if (!in(year, 0, 9999) || !known.isEmpty() && year <= known.get(known.size() - 1)) return BAD;
        if (known.size() == 16) return FULL;
        known.add(year);
        return known.size();
    }

    private List<Integer> gaps() {
        List<Integer> all = new ArrayList<>();
        for (int i = 1; i < known.size(); i++) all.add(known.get(i) - known.get(i - 1));
        return all;
    }

    public int next(int w, int what) {
        if (!in(w, 0, 9999) || !in(what, 0, 1) || gaps().isEmpty()) return NO;
        int since = tunes[2] - known.get(known.size() - 1);
        if (since < 0) return NO;
        int upper = 0;
        int lower = 0;
        for (int gap : gaps()) {
            if (gap > since) lower++;
            if (gap > since && gap <= since + w) upper++;
        }
        if (lower == 0) return 1;
        int g = BigInteger.valueOf(upper).gcd(BigInteger.valueOf(lower)).intValue();
        return what == 0 ? upper / g : lower / g;
    }

    public int even() {
        TreeSet<Integer> all = new TreeSet<>(gaps());
        return all.isEmpty() ? NONE : 1000 * all.first() / all.last();
    }

    public long story(int s, int v) {
        if (!in(s, 0, 4) || !in(v, 0, 99)) return BAD;
        return weights.set(s, BigInteger.valueOf(v)).longValueExact();
    }

    public int chance(int s, int marsh, int v) {
        if (!in(s, 0, 4) || !in(marsh, 0, 5) || !in(v, 0, 10)) return BAD;
        int was = chances[s][marsh];
        chances[s][marsh] = v;
        return was;
    }

    private List<BigInteger> behind(int marsh, int sand) {
        List<BigInteger> all = new ArrayList<>();
        for (int s = 0; s < 5; s++) {
            int times = sand == 1 ? chances[s][marsh] : 10 - chances[s][marsh];
            all.add(weights.get(s).multiply(BigInteger.valueOf(times)));
        }
        return all;
    }

    public int dug(int marsh, int sand) {
        if (!in(marsh, 0, 5) || !in(sand, 0, 1)) return BAD;
        if (dug.contains(marsh)) return STATE;
        List<BigInteger> all = behind(marsh, sand);
        BigInteger g = BigInteger.ZERO;
        for (BigInteger w : all) g = g.gcd(w);
        if (g.signum() == 0) return STATE;
        for (int s = 0; s < 5; s++) all.set(s, all.get(s).divide(g));
        for (BigInteger w : all) if (w.compareTo(BigInteger.TEN.pow(12)) > 0) return FULL;
        weights = all;
        dug.add(marsh);
        return dug.size();
    }

    public long believed(int s, int what) {
        if (!in(s, 0, 4) || !in(what, 0, 1)) return BAD;
        BigInteger sum = BigInteger.ZERO;
        for (BigInteger w : weights) sum = sum.add(w);
        if (sum.signum() == 0) return what;
        BigInteger g = sum.gcd(weights.get(s));
        return (what == 0 ? weights.get(s) : sum).divide(g).longValueExact();
    }

    public int dig() {
        int best = NONE;
        BigInteger most = BigInteger.ZERO;
        for (int m = 5; m >= 0; m--) {
            if (dug.contains(m)) continue;
            BigInteger sum = new TreeSet<>(behind(m, 1)).last().add(new TreeSet<>(behind(m, 0)).last());
            if (sum.compareTo(most) >= 0) {
                most = sum;
                best = m;
            }
        }
        return best;
    }

    public int minutes(int town, int low, int high) {
        if (!sea(town) || !in(low, 0, 16777215) || !in(high, 0, 16777215)) return BAD;
        TreeSet<Integer> all = new TreeSet<>();
        for (int c = 0; c < 48; c++) {
            boolean there = c < 24 ? (low >> c & 1) == 1 : (high >> c - 24 & 1) == 1;
            if (there && sea(c) && time(c, town) != NONE) all.add(time(c, town));
        }
        return all.isEmpty() ? NONE : all.first();
    }

    public int trust(int kind, int sheet) {
        if (!in(kind, 0, 5) || !in(sheet, 0, sheets.size() - 1)) return NO;
        int[] brackets = {1, 10, 100, 1000, 10000, 100000};
        int[] above = {NO, 0, 0, 1, 2, 0};
        trace += brackets[kind];
        Sheet own = sheets.get(sheet);
        if (kind == 0) return own.marsh + 1;
        int up = trust(above[kind], sheet);
        switch (kind) {
            case 1:
                for (int s = 0; s < sheets.size(); s++) if (together(1 << s | 1 << sheet, 0) != NONE) up++;
                return up;
            case 2: return up + books.size();
            case 3: {
                TreeSet<Integer> marshes = new TreeSet<>();
                for (Sheet s : sheets) marshes.add(s.marsh);
                return up * marshes.size();
            }
            case 4: return up + up;
            default: {
                int years = 0;
                for (int year = 0; year <= 9999; year++) if (own.has(year)) years++;
                return up - years / 100;
            }
        }
    }

    public int keep(int image) {
        if (!in(image, 0, 1)) return BAD;
        images[image] = new Image(new ArrayList<>(books), new ArrayList<>(sheets), new ArrayList<>(known),
                new ArrayList<>(weights), new TreeSet<>(dug));
        return sheets.size();
    }

    public int back(int image) {
        if (!in(image, 0, 1)) return BAD;
        Image i = images[image];
        if (i == null) return STATE;
        books = new ArrayList<>(i.books);
        sheets = new ArrayList<>(i.sheets);
        known = new ArrayList<>(i.known);
        weights = new ArrayList<>(i.weights);
        dug = new TreeSet<>(i.dug);
        return sheets.size();
    }

    public int count(int what) {
        int seas = 0;
        for (int d : depths) if (d > 0) seas++;
        int[] all = {seas, books.size(), calendar.size(), rings.size(), sheets.size(), known.size(), dug.size(), text.length()};
        return in(what, 0, 7) ? all[what] : BAD;
    }

    public long trace() {
        return trace;
    }
}
