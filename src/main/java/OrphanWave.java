/**
 * A wave without an earthquake: an ocean and its waves, books of far harbours, old calendars,
 * rings of woods, sheets of sand, known slips, stories with odds, towns, kinds and images.
 * The outer class looks at every number that is told; the classes inside rely on that.
 */
public final class OrphanWave {
    public static final int BAD = -1, STATE = -2, FULL = -3, NONE = -9;
    public static final int NO = -1000000;

    private static final int ROWS = 6, COLUMNS = 8, CELLS = ROWS * COLUMNS;
    private static final int TEXT_BYTES = 400;
    private static final int BLANK = ' ', END_MARK = ';';
    private static final int FITS = -1, FAULT_BASE = -10;
    private static final int LAST_YEAR = 9999, LAST_MINUTE = 9999;
    private static final int SIZES = 99, MAX_HEIGHT = 999;
    private static final int MAX_BOOKS = 6, MAX_SHEETS = 12, MAX_KNOWN = 16;
    private static final int MAX_YEARS = 8, MIN_MONTHS = 12, MAX_MONTHS = 13;
    private static final int SHORT_MONTH = 29, LONG_MONTH = 30;
    private static final int HOURS = 12, HOUR_MINUTES = 120, DAY_MINUTES = 1440, DAY_LEAD = 60;
    private static final int MAX_RINGS = 60, WOODS = 4, MAX_WOOD_RINGS = 30, MAX_WIDTH = 99;
    private static final int MARSHES = 6, STORIES = 5, IMAGES = 2, TENTHS = 10, MAX_WEIGHT = 99;
    private static final int MAX_MOTHERS = 50, MAX_MOTHER_YEARS = 99;
    private static final int HALF_CELLS = 24, HALF_BITS = (1 << HALF_CELLS) - 1;
    private static final int TYPE_BYTES = 8, BYTE_BITS = 8;

    private final Text text = new Text();
    private final Ocean ocean = new Ocean();
    private final Trees trees = new Trees();
    private final Findings found = new Findings();
    private final Findings[] images = new Findings[IMAGES];
    private final Search search = new Search(ocean, found.books);
    private final Stories stories = new Stories(found);
    private final Signs signs = new Signs(found);
    private Calendar calendar = new Calendar();
    private Calendar draft = new Calendar();
    private int yearOfNow = 2000;

    public OrphanWave() {
        for (int i = 0; i < IMAGES; i++) images[i] = new Findings();
    }

    // ---- the ocean

    public int type(long v, int n) {
        if (!within(n, 1, TYPE_BYTES)) return BAD;
        if (n > TEXT_BYTES - text.length) return FULL;
        for (int i = n - 1; i >= 0; i--) text.append((byte) (v >>> (BYTE_BITS * i)));
        return text.length;
    }

    public int clear() {
        return text.empty();
    }

    public int ocean() {
        int fault = ocean.become(text);
        if (fault != FITS) return FAULT_BASE - fault;
        text.empty();
        return ocean.seaCells();
    }

    public int depth(int cell) {
        return isCell(cell) ? ocean.depths[cell] : BAD;
    }

    public int tune(int what, int v) {
        int was = BAD;
        if (what == 0 && within(v, 1, 9)) {
            was = ocean.pace;
            ocean.pace = v;
        } else if (what == 1 && within(v, 1, 999)) {
            was = ocean.fade;
            ocean.fade = v;
        } else if (what == 2 && isYear(v)) {
            was = yearOfNow;
            yearOfNow = v;
        }
        return was;
    }

    public int time(int from, int to) {
        if (!isCell(from) || !isCell(to)) return BAD;
        return ocean.travel(from, to);
    }

    public int height(int from, int size, int to) {
        if (!isCell(from) || !isSize(size) || !isCell(to)) return BAD;
        return ocean.swell(ocean.travel(from, to), size, to);
    }

    // ---- books

    public int book(int cell, int from, int to, int low, int high) {
        if (!ocean.isSea(cell)) return BAD;
        if (!isSpan(from, to, -LAST_MINUTE, LAST_MINUTE)) return BAD;
        if (!isSpan(low, high, 0, MAX_HEIGHT)) return BAD;
        if (found.books.count >= MAX_BOOKS) return FULL;
        return found.books.add(cell, from, to, low, high);
    }

    public int begins(int cell, int size) {
        if (!ocean.isSea(cell) || !isSize(size)) return BAD;
        if (found.books.count == 0) return NONE;
        search.measure();
        return search.beginsOf(cell, size);
    }

    public int ways(int cell) {
        if (cell != -1 && !ocean.isSea(cell)) return BAD;
        if (found.books.count == 0) return NONE;
        search.measure();
        return cell == -1 ? search.allWays() : search.waysOf(cell);
    }

    public int whence(int what) {
        if (!within(what, 0, 4) || found.books.count == 0) return NO;
        search.measure();
        int cell = search.likeliestCell();
        if (cell == NONE) return NO;
        switch (what) {
            case 0: return cell;
            case 1: return search.leastSize(cell);
            case 2: return search.greatestSize(cell);
            case 3: return search.earliestBegin(cell);
            default: return search.latestBegin(cell);
        }
    }

    // ---- calendars

    public int calendar() {
        int fault = draft.become(text);
        if (fault != FITS) return FAULT_BASE - fault;
        Calendar read = draft;
        draft = calendar;
        calendar = read;
        text.empty();
        return calendar.years;
    }

    public int clock(int year, int month, int day, int hour) {
        if (!calendar.hasDay(year, month, day) || !within(hour, 0, HOURS - 1)) return NO;
        return calendar.daysAhead(year, month, day) * DAY_MINUTES + hour * HOUR_MINUTES - DAY_LEAD;
    }

    public int told(int minute, int what) {
        if (!within(what, 0, 3) || minute < -DAY_LEAD) return NO;
        long sinceFirstHour = (long) minute + DAY_LEAD;
        long day = sinceFirstHour / DAY_MINUTES;
        if (day >= calendar.allDays()) return NO;
        if (what == 3) return (int) (sinceFirstHour % DAY_MINUTES / HOUR_MINUTES);
        return calendar.partOfDay((int) day, what);
    }

    // ---- rings

    public int ring(int width) {
        if (!isWidth(width)) return BAD;
        return trees.livingCount >= MAX_RINGS ? FULL : trees.grow(width);
    }

    public int living(int year) {
        return isYear(year) ? trees.plant(year) : BAD;
    }

    public int wood(int w, int width) {
        if (!isWood(w) || !isWidth(width)) return BAD;
        return trees.woodCounts[w] >= MAX_WOOD_RINGS ? FULL : trees.growWood(w, width);
    }

    public int felled(int w, int end) {
        if (!isWood(w) || !isBit(end)) return BAD;
        return trees.startWood(w, end);
    }

    public int like(int w, int k) {
        if (!isWood(w) || !trees.lies(w, k)) return BAD;
        return trees.likeness(w, k);
    }

    public int died(int w, int what) {
        if (!isWood(w) || !within(what, 0, 2)) return BAD;
        int laid = trees.laidOn(w);
        if (laid == NONE || what == 0) return laid;
        return what == 1 ? trees.lastYear(w, laid) : trees.ends[w];
    }

    public int alike() {
        return trees.sharedDeath();
    }

    // ---- sheets, tales, known slips

    public int sheet(int marsh, int old, int young) {
        if (!isMarsh(marsh) || !isSpan(old, young, 0, LAST_YEAR)) return BAD;
        return found.sheets.count >= MAX_SHEETS ? FULL : found.sheets.add(marsh, old, young);
    }

    public int together(int set, int what) {
        int present = set & found.sheets.all();
        if (present == 0 || !isBit(what)) return BAD;
        int first = found.sheets.firstShared(present);
        int last = found.sheets.lastShared(present);
        if (first > last) return NONE;
        return what == 0 ? first : last;
    }

    public int slips() {
        return Math.max(found.sheets.fewestYears(), found.sheets.mostOfOneMarsh());
    }

    public int joined(int year) {
        return isYear(year) ? found.sheets.marshesAt(year) : BAD;
    }

    public int whole(int what) {
        if (!isBit(what)) return BAD;
        int year = found.sheets.widestYear();
        if (year == NONE || what == 0) return year;
        return Integer.bitCount(found.sheets.marshesAt(year));
    }

    public int tale(int year, int n, int low, int high, int what) {
        if (!isYear(year) || !within(n, 0, MAX_MOTHERS) || !isBit(what)) return NO;
        if (!isSpan(low, high, 1, MAX_MOTHER_YEARS)) return NO;
        return year - n * (what == 0 ? high : low);
    }

    public int known(int year) {
        if (!isYear(year) || !found.known.isLater(year)) return BAD;
        return found.known.count >= MAX_KNOWN ? FULL : found.known.add(year);
    }

    public int next(int w, int what) {
        if (!within(w, 0, LAST_YEAR) || !isBit(what)) return NO;
        return found.known.outlook(yearOfNow, w, what);
    }

    public int even() {
        return found.known.evenness();
    }

    // ---- stories, towns

    public long story(int s, int v) {
        if (!isStory(s) || !within(v, 0, MAX_WEIGHT)) return BAD;
        long was = found.weights[s];
        found.weights[s] = v;
        return was;
    }

    public int chance(int s, int marsh, int v) {
        if (!isStory(s) || !isMarsh(marsh) || !within(v, 0, TENTHS)) return BAD;
        int was = stories.chances[s][marsh];
        stories.chances[s][marsh] = v;
        return was;
    }

    public int dug(int marsh, int sand) {
        if (!isMarsh(marsh) || !isBit(sand)) return BAD;
        if (found.isDug(marsh)) return STATE;
        int refusal = stories.weigh(marsh, sand);
        if (refusal != FITS) return refusal;
        stories.settle(marsh);
        return found.dugCount();
    }

    public long believed(int s, int what) {
        if (!isStory(s) || !isBit(what)) return BAD;
        return stories.part(s, what);
    }

    public int dig() {
        return stories.bestMarsh();
    }

    public int minutes(int town, int low, int high) {
        if (!ocean.isSea(town)) return BAD;
        if (!within(low, 0, HALF_BITS) || !within(high, 0, HALF_BITS)) return BAD;
        return ocean.soonest(town, (long) high << HALF_CELLS | low);
    }

    // ---- kinds, images

    public int trust(int kind, int sheet) {
        if (!within(sheet, 0, found.sheets.count - 1)) return NO;
        switch (kind) {
            case 0: return signs.asSign(sheet);
            case 1: return signs.asSheet(sheet);
            case 2: return signs.asWritten(sheet);
            case 3: return signs.asSlid(sheet);
            case 4: return signs.asTold(sheet);
            case 5: return signs.asAged(sheet);
            default: return NO;
        }
    }

    public int keep(int image) {
        if (!isImage(image)) return BAD;
        images[image].become(found);
        images[image].kept = true;
        return found.sheets.count;
    }

    public int back(int image) {
        if (!isImage(image)) return BAD;
        if (!images[image].kept) return STATE;
        found.become(images[image]);
        return found.sheets.count;
    }

    public int count(int what) {
        switch (what) {
            case 0: return ocean.seaCells();
            case 1: return found.books.count;
            case 2: return calendar.years;
            case 3: return trees.livingCount;
            case 4: return found.sheets.count;
            case 5: return found.known.count;
            case 6: return found.dugCount();
            case 7: return text.length;
            default: return BAD;
        }
    }

    public long trace() {
        return signs.trace;
    }

    // ---- what numbers may be

    private static boolean within(int v, int low, int high) {
        return v >= low && v <= high;
    }

    private static boolean isSpan(int low, int high, int least, int most) {
        return low >= least && low <= high && high <= most;
    }

    private static boolean isCell(int cell) {
        return within(cell, 0, CELLS - 1);
    }

    private static boolean isSize(int size) {
        return within(size, 1, SIZES);
    }

    private static boolean isYear(int year) {
        return within(year, 0, LAST_YEAR);
    }

    private static boolean isWood(int w) {
        return within(w, 0, WOODS - 1);
    }

    private static boolean isWidth(int width) {
        return within(width, 0, MAX_WIDTH);
    }

    private static boolean isMarsh(int marsh) {
        return within(marsh, 0, MARSHES - 1);
    }

    private static boolean isStory(int s) {
        return within(s, 0, STORIES - 1);
    }

    private static boolean isImage(int image) {
        return within(image, 0, IMAGES - 1);
    }

    private static boolean isBit(int v) {
        return v == 0 || v == 1;
    }

    /** 0 only where both numbers are 0; neither may be below 0. */
    private static long commonPart(long a, long b) {
        long x = a;
        long y = b;
        // The numbers shrink by half in two steps, so 128 steps are more than a long can need.
        for (int i = 0; i < 128 && y != 0; i++) {
            long rest = x % y;
            x = y;
            y = rest;
        }
        return x;
    }

    /** THE TEXT. */
    private static final class Text {
        private final byte[] bytes = new byte[TEXT_BYTES];
        private int length;

        void append(byte b) {
            if (length < TEXT_BYTES) bytes[length++] = b;
        }

        int empty() {
            int had = length;
            length = 0;
            return had;
        }

        int byteAt(int i) {
            return i >= 0 && i < length ? bytes[i] & 255 : -1;
        }

        boolean isFigure(int i) {
            int b = byteAt(i);
            return b >= '0' && b <= '9';
        }

        /** Where the figures that begin at a place end; the place itself, if it has none. */
        int figuresEnd(int at) {
            int end = at;
            while (end < length && isFigure(end)) end++;
            return end;
        }
    }

    /** THE OCEAN with what is tuned of its waves. */
    private static final class Ocean {
        private static final int ROW_PLACES = COLUMNS + 1, SHALLOW = 2, DEPTHS = 10;
        private final int[] depths = new int[CELLS];
        private final int[] figures = new int[CELLS];
        private final int[] times = new int[CELLS];
        private int pace = 3;
        private int fade = 100;

        boolean isSea(int cell) {
            return isCell(cell) && depths[cell] > 0;
        }

        int seaCells() {
            int n = 0;
            for (int cell = 0; cell < CELLS; cell++) if (depths[cell] > 0) n++;
            return n;
        }

        /** Becomes as a text tells; its FAULT, or FITS. */
        int become(Text text) {
            int fault = read(text);
            if (fault == FITS) System.arraycopy(figures, 0, depths, 0, CELLS);
            return fault;
        }

        private int read(Text text) {
            int place = 0;
            for (int i = 0; i < text.length; i++) {
                if (text.byteAt(i) == BLANK) continue;
                if (place >= ROWS * ROW_PLACES) return i;
                int column = place % ROW_PLACES;
                if (column == COLUMNS) {
                    if (text.byteAt(i) != END_MARK) return i;
                } else {
                    if (!text.isFigure(i)) return i;
                    figures[place / ROW_PLACES * COLUMNS + column] = text.byteAt(i) - '0';
                }
                place++;
            }
            return place < ROWS * ROW_PLACES ? text.length : FITS;
        }

        /** TIME from one CELL to another. */
        int travel(int from, int to) {
            measureTo(to, times);
            return times[from];
        }

        /** The least TIME to a town from those CELLS of a set that are sea. */
        int soonest(int town, long set) {
            measureTo(town, times);
            int least = NONE;
            for (int cell = 0; cell < CELLS; cell++) {
                if ((set >>> cell & 1) == 0 || times[cell] == NONE) continue;
                if (least == NONE || times[cell] < least) least = times[cell];
            }
            return least;
        }

        /** HEIGHT in a CELL to which a wave takes so many MINUTES, or NONE. */
        int swell(int minutes, int size, int to) {
            int fading = fade + minutes;
            if (minutes < 0 || fading <= 0) return NONE;
            int height = size * fade / fading;
            return depths[to] <= SHALLOW ? 2 * height : height;
        }

        /**
         * TIMES to one CELL from each. All questions have one goal and many beginnings,
         * so the ways are followed backwards: a CELL's TIME is that of its neighbour
         * and the MINUTES into the neighbour.
         */
        void measureTo(int goal, int[] row) {
            for (int cell = 0; cell < CELLS; cell++) row[cell] = NONE;
            if (depths[goal] == 0) return;
            row[goal] = 0;
            boolean shorter = true;
            // No shortest way has more than CELLS steps.
            for (int i = 0; i < CELLS && shorter; i++) shorter = sweep(row);
        }

        private boolean sweep(int[] row) {
            boolean shorter = false;
            for (int cell = 0; cell < CELLS; cell++) {
                if (depths[cell] == 0) continue;
                int column = cell % COLUMNS;
                if (cell >= COLUMNS && shorten(row, cell, cell - COLUMNS)) shorter = true;
                if (cell < CELLS - COLUMNS && shorten(row, cell, cell + COLUMNS)) shorter = true;
                if (column > 0 && shorten(row, cell, cell - 1)) shorter = true;
                if (column < COLUMNS - 1 && shorten(row, cell, cell + 1)) shorter = true;
            }
            return shorter;
        }

        private boolean shorten(int[] row, int cell, int neighbour) {
            if (row[neighbour] == NONE) return false;
            int minutes = row[neighbour] + pace * (DEPTHS - depths[neighbour]);
            if (row[cell] != NONE && row[cell] <= minutes) return false;
            row[cell] = minutes;
            return true;
        }
    }

    private static final class Books {
        private final int[] cells = new int[MAX_BOOKS];
        private final int[] froms = new int[MAX_BOOKS];
        private final int[] tos = new int[MAX_BOOKS];
        private final int[] lows = new int[MAX_BOOKS];
        private final int[] highs = new int[MAX_BOOKS];
        private int count;

        int add(int cell, int from, int to, int low, int high) {
            cells[count] = cell;
            froms[count] = from;
            tos[count] = to;
            lows[count] = low;
            highs[count] = high;
            return count++;
        }

        void become(Books other) {
            System.arraycopy(other.cells, 0, cells, 0, MAX_BOOKS);
            System.arraycopy(other.froms, 0, froms, 0, MAX_BOOKS);
            System.arraycopy(other.tos, 0, tos, 0, MAX_BOOKS);
            System.arraycopy(other.lows, 0, lows, 0, MAX_BOOKS);
            System.arraycopy(other.highs, 0, highs, 0, MAX_BOOKS);
            count = other.count;
        }
    }

    /** Whence a wave could have come, by the BOOKS; asked only behind measure() and with BOOKS. */
    private static final class Search {
        private final Ocean ocean;
        private final Books books;
        private final int[][] times = new int[MAX_BOOKS][CELLS];

        Search(Ocean ocean, Books books) {
            this.ocean = ocean;
            this.books = books;
        }

        void measure() {
            for (int b = 0; b < books.count; b++) ocean.measureTo(books.cells[b], times[b]);
        }

        int earliestBegin(int cell) {
            int earliest = books.froms[0] - times[0][cell];
            for (int b = 1; b < books.count; b++) {
                earliest = Math.max(earliest, books.froms[b] - times[b][cell]);
            }
            return earliest;
        }

        int latestBegin(int cell) {
            int latest = books.tos[0] - times[0][cell];
            for (int b = 1; b < books.count; b++) {
                latest = Math.min(latest, books.tos[b] - times[b][cell]);
            }
            return latest;
        }

        int beginsOf(int cell, int size) {
            return heightsFit(cell, size) ? beginsByHours(cell) : 0;
        }

        int waysOf(int cell) {
            int begins = beginsByHours(cell);
            if (begins == 0) return 0;
            int sizes = 0;
            for (int size = 1; size <= SIZES; size++) if (heightsFit(cell, size)) sizes++;
            return begins * sizes;
        }

        int allWays() {
            int sum = 0;
            for (int cell = 0; cell < CELLS; cell++) sum += waysOf(cell);
            return sum;
        }

        int likeliestCell() {
            int best = NONE;
            int most = 0;
            for (int cell = 0; cell < CELLS; cell++) {
                int ways = waysOf(cell);
                if (ways > most) {
                    most = ways;
                    best = cell;
                }
            }
            return best;
        }

        int leastSize(int cell) {
            for (int size = 1; size <= SIZES; size++) if (heightsFit(cell, size)) return size;
            return NO;
        }

        int greatestSize(int cell) {
            for (int size = SIZES; size >= 1; size--) if (heightsFit(cell, size)) return size;
            return NO;
        }

        private int beginsByHours(int cell) {
            if (!comesToAll(cell)) return 0;
            return Math.max(0, latestBegin(cell) - earliestBegin(cell) + 1);
        }

        private boolean comesToAll(int cell) {
            for (int b = 0; b < books.count; b++) if (times[b][cell] == NONE) return false;
            return true;
        }

        private boolean heightsFit(int cell, int size) {
            for (int b = 0; b < books.count; b++) {
                int height = ocean.swell(times[b][cell], size, books.cells[b]);
                if (height < books.lows[b] || height > books.highs[b]) return false;
            }
            return true;
        }
    }

    private static final class Calendar {
        private final int[][] lengths = new int[MAX_YEARS][MAX_MONTHS];
        private final int[] months = new int[MAX_YEARS];
        private int years;

        /** Becomes as a text tells; its FAULT, or FITS. Behind a FAULT it is of no use. */
        int become(Text text) {
            years = 0;
            int open = 0;
            int at = 0;
            while (at < text.length) {
                int end = Math.max(at + 1, text.figuresEnd(at));
                if (text.byteAt(at) == END_MARK) {
                    if (!endsYear(open)) return at;
                    open = 0;
                } else if (text.byteAt(at) != BLANK) {
                    if (!takesMonth(open, lengthAt(text, at, end))) return at;
                    open++;
                }
                at = end;
            }
            return open > 0 ? text.length : FITS;
        }

        private boolean endsYear(int open) {
            if (years >= MAX_YEARS || open < MIN_MONTHS) return false;
            months[years++] = open;
            return true;
        }

        private boolean takesMonth(int open, int length) {
            if (years >= MAX_YEARS || open >= MAX_MONTHS || length == NONE) return false;
            lengths[years][open] = length;
            return true;
        }

        /** NONE for every TOKEN but 29 and 30: all of them fail at the same byte. */
        private static int lengthAt(Text text, int at, int end) {
            if (end - at != 2 || !text.isFigure(at)) return NONE;
            int number = 10 * (text.byteAt(at) - '0') + text.byteAt(at + 1) - '0';
            return number == SHORT_MONTH || number == LONG_MONTH ? number : NONE;
        }

        boolean hasDay(int year, int month, int day) {
            return within(year, 0, years - 1) && within(month, 0, months[year] - 1)
                    && within(day, 0, lengths[year][month] - 1);
        }

        int daysAhead(int year, int month, int day) {
            int days = day;
            for (int y = 0; y < year; y++) days += daysOf(y, months[y]);
            return days + daysOf(year, month);
        }

        int allDays() {
            int days = 0;
            for (int y = 0; y < years; y++) days += daysOf(y, months[y]);
            return days;
        }

        /** YEAR (0), MONTH (1) or DAY (2) of the day with a number of all that there are. */
        int partOfDay(int number, int what) {
            int left = number;
            for (int y = 0; y < years; y++) {
                for (int m = 0; m < months[y]; m++) {
                    if (left < lengths[y][m]) return what == 0 ? y : what == 1 ? m : left;
                    left -= lengths[y][m];
                }
            }
            return NO;
        }

        private int daysOf(int year, int firstMonths) {
            int days = 0;
            for (int m = 0; m < firstMonths; m++) days += lengths[year][m];
            return days;
        }
    }

    /** LIVING trees and WOODS. */
    private static final class Trees {
        private final int[] livingRings = new int[MAX_RINGS];
        private final int[][] woodRings = new int[WOODS][MAX_WOOD_RINGS];
        private final int[] woodCounts = new int[WOODS];
        private final int[] ends = new int[WOODS];
        private int livingCount;
        private int firstYear = 1000;

        int grow(int width) {
            livingRings[livingCount++] = width;
            return livingCount;
        }

        int plant(int year) {
            int had = livingCount;
            livingCount = 0;
            firstYear = year;
            return had;
        }

        int growWood(int w, int width) {
            woodRings[w][woodCounts[w]++] = width;
            return woodCounts[w];
        }

        int startWood(int w, int end) {
            int had = woodCounts[w];
            woodCounts[w] = 0;
            ends[w] = end;
            return had;
        }

        boolean lies(int w, int k) {
            return woodCounts[w] >= 2 && within(k, 0, livingCount - woodCounts[w]);
        }

        int likeness(int w, int k) {
            int alike = 0;
            for (int i = 1; i < woodCounts[w]; i++) {
                int change = Integer.compare(woodRings[w][i], woodRings[w][i - 1]);
                if (change == Integer.compare(livingRings[k + i], livingRings[k + i - 1])) alike++;
            }
            return alike;
        }

        int laidOn(int w) {
            int best = NONE;
            int most = -1;
            if (woodCounts[w] < 2) return best;
            for (int k = 0; k <= livingCount - woodCounts[w]; k++) {
                int alike = likeness(w, k);
                if (alike > most) {
                    most = alike;
                    best = k;
                }
            }
            return best;
        }

        int lastYear(int w, int laid) {
            return firstYear + laid + woodCounts[w] - 1;
        }

        /** The YEAR in which all WOODS that can be laid DIED, with one END; or NONE. */
        int sharedDeath() {
            int year = NONE;
            int end = NONE;
            for (int w = 0; w < WOODS; w++) {
                int laid = laidOn(w);
                if (laid == NONE) continue;
                if (year == NONE) {
                    year = lastYear(w, laid);
                    end = ends[w];
                } else if (year != lastYear(w, laid) || end != ends[w]) {
                    return NONE;
                }
            }
            return year;
        }
    }

    private static final class Sheets {
        private final int[] marshes = new int[MAX_SHEETS];
        private final int[] olds = new int[MAX_SHEETS];
        private final int[] youngs = new int[MAX_SHEETS];
        private int count;

        int add(int marsh, int old, int young) {
            marshes[count] = marsh;
            olds[count] = old;
            youngs[count] = young;
            return count++;
        }

        void become(Sheets other) {
            System.arraycopy(other.marshes, 0, marshes, 0, MAX_SHEETS);
            System.arraycopy(other.olds, 0, olds, 0, MAX_SHEETS);
            System.arraycopy(other.youngs, 0, youngs, 0, MAX_SHEETS);
            count = other.count;
        }

        /** All SHEETS as bits. */
        int all() {
            return (1 << count) - 1;
        }

        /** The first YEAR behind which no span of the set begins. */
        int firstShared(int set) {
            int first = 0;
            for (int s = 0; s < count; s++) if ((set >> s & 1) == 1) first = Math.max(first, olds[s]);
            return first;
        }

        /** The last YEAR ahead of which no span of the set ends. */
        int lastShared(int set) {
            int last = LAST_YEAR;
            for (int s = 0; s < count; s++) if ((set >> s & 1) == 1) last = Math.min(last, youngs[s]);
            return last;
        }

        /** SHEETS, as bits, that have a YEAR in their span. */
        int sheetsAt(int year) {
            int set = 0;
            for (int s = 0; s < count; s++) if (within(year, olds[s], youngs[s])) set |= 1 << s;
            return set;
        }

        /** MARSHES, as bits, of a set of SHEETS. */
        int marshesOf(int set) {
            int bits = 0;
            for (int s = 0; s < count; s++) if ((set >> s & 1) == 1) bits |= 1 << marshes[s];
            return bits;
        }

        int marshesAt(int year) {
            return marshesOf(sheetsAt(year));
        }

        /**
         * The fewest YEARS of which each SHEET has one. The SHEET left whose span ends first
         * needs a YEAR, and its last one serves the most others.
         */
        int fewestYears() {
            int left = all();
            int years = 0;
            for (int i = 0; i < MAX_SHEETS && left != 0; i++) {
                left &= ~sheetsAt(lastShared(left));
                years++;
            }
            return years;
        }

        int mostOfOneMarsh() {
            int most = 0;
            for (int marsh = 0; marsh < MARSHES; marsh++) {
                int n = 0;
                for (int s = 0; s < count; s++) if (marshes[s] == marsh) n++;
                most = Math.max(most, n);
            }
            return most;
        }

        /** The first YEAR that joins the most MARSHES; the joined grow only where a span begins. */
        int widestYear() {
            int best = NONE;
            int most = 0;
            for (int s = 0; s < count; s++) {
                int n = Integer.bitCount(marshesAt(olds[s]));
                if (n > most || n == most && olds[s] < best) {
                    most = n;
                    best = olds[s];
                }
            }
            return best;
        }

        /** How many SHEETS share a YEAR with one, itself too. */
        int companions(int sheet) {
            int n = 0;
            for (int s = 0; s < count; s++) {
                if (olds[s] <= youngs[sheet] && olds[sheet] <= youngs[s]) n++;
            }
            return n;
        }
    }

    private static final class KnownSlips {
        private final int[] years = new int[MAX_KNOWN];
        private int count;

        boolean isLater(int year) {
            return count == 0 || year > years[count - 1];
        }

        int add(int year) {
            years[count++] = year;
            return count;
        }

        void become(KnownSlips other) {
            System.arraycopy(other.years, 0, years, 0, MAX_KNOWN);
            count = other.count;
        }

        /** NEXT: its upper (0) or lower number (1), or NO. */
        int outlook(int yearOfNow, int w, int what) {
            if (count < 2 || yearOfNow < years[count - 1]) return NO;
            int since = yearOfNow - years[count - 1];
            int more = gapsAbove(since);
            if (more == 0) return 1;
            int soon = more - gapsAbove(since + w);
            int part = (int) commonPart(soon, more);
            if (part == 0) return NO;
            return (what == 0 ? soon : more) / part;
        }

        private int gapsAbove(int limit) {
            int n = 0;
            for (int i = 1; i < count; i++) if (years[i] - years[i - 1] > limit) n++;
            return n;
        }

        int evenness() {
            if (count < 2) return NONE;
            int least = LAST_YEAR;
            int greatest = 0;
            for (int i = 1; i < count; i++) {
                least = Math.min(least, years[i] - years[i - 1]);
                greatest = Math.max(greatest, years[i] - years[i - 1]);
            }
            return greatest == 0 ? NONE : 1000 * least / greatest;
        }
    }

    /** What IMAGES keep. */
    private static final class Findings {
        private final Books books = new Books();
        private final Sheets sheets = new Sheets();
        private final KnownSlips known = new KnownSlips();
        private final long[] weights = {1, 1, 1, 1, 1};
        private int dugMarshes;
        private boolean kept;

        void become(Findings other) {
            books.become(other.books);
            sheets.become(other.sheets);
            known.become(other.known);
            System.arraycopy(other.weights, 0, weights, 0, STORIES);
            dugMarshes = other.dugMarshes;
        }

        boolean isDug(int marsh) {
            return (dugMarshes >> marsh & 1) == 1;
        }

        int dugCount() {
            return Integer.bitCount(dugMarshes);
        }
    }

    private static final class Stories {
        private static final long GREATEST_WEIGHT = 1000000000000L;
        private static final int FIRST_CHANCE = 5;
        private final Findings found;
        private final int[][] chances = new int[STORIES][MARSHES];
        private final long[] behind = new long[STORIES];

        Stories(Findings found) {
            this.found = found;
            for (int s = 0; s < STORIES; s++) {
                for (int marsh = 0; marsh < MARSHES; marsh++) chances[s][marsh] = FIRST_CHANCE;
            }
        }

        /** What WEIGHTS a digging would leave, held for settle(); FITS, or why it is refused. */
        int weigh(int marsh, int sand) {
            long part = 0;
            for (int s = 0; s < STORIES; s++) {
                behind[s] = weightBehind(s, marsh, sand);
                part = commonPart(part, behind[s]);
            }
            if (part == 0) return STATE;
            for (int s = 0; s < STORIES; s++) {
                behind[s] /= part;
                if (behind[s] > GREATEST_WEIGHT) return FULL;
            }
            return FITS;
        }

        void settle(int marsh) {
            System.arraycopy(behind, 0, found.weights, 0, STORIES);
            found.dugMarshes |= 1 << marsh;
        }

        private long weightBehind(int s, int marsh, int sand) {
            int chance = chances[s][marsh];
            return found.weights[s] * (sand == 1 ? chance : TENTHS - chance);
        }

        private long greatestBehind(int marsh, int sand) {
            long greatest = 0;
            for (int s = 0; s < STORIES; s++) {
                greatest = Math.max(greatest, weightBehind(s, marsh, sand));
            }
            return greatest;
        }

        int bestMarsh() {
            int best = NONE;
            long most = -1;
            for (int marsh = 0; marsh < MARSHES; marsh++) {
                if (found.isDug(marsh)) continue;
                // As they are, not made least: parts of one whole can be compared only so.
                long sum = greatestBehind(marsh, 1) + greatestBehind(marsh, 0);
                if (sum > most) {
                    most = sum;
                    best = marsh;
                }
            }
            return best;
        }

        /** BELIEVED: its upper (0) or lower number (1). */
        long part(int s, int what) {
            long sum = 0;
            for (int i = 0; i < STORIES; i++) sum += found.weights[i];
            if (sum == 0) return what;
            long part = commonPart(found.weights[s], sum);
            if (part == 0) return what;
            return (what == 0 ? found.weights[s] : sum) / part;
        }
    }

    /** KINDS: each body adds its number to THE TRACE and asks the one above. */
    private static final class Signs {
        private final Findings found;
        private long trace;

        Signs(Findings found) {
            this.found = found;
        }

        int asSign(int sheet) {
            trace += 1;
            return found.sheets.marshes[sheet] + 1;
        }

        int asSheet(int sheet) {
            trace += 10;
            return asSign(sheet) + found.sheets.companions(sheet);
        }

        int asWritten(int sheet) {
            trace += 100;
            return asSign(sheet) + found.books.count;
        }

        int asSlid(int sheet) {
            trace += 1000;
            int marshes = found.sheets.marshesOf(found.sheets.all());
            return asSheet(sheet) * Integer.bitCount(marshes);
        }

        int asTold(int sheet) {
            trace += 10000;
            return 2 * asWritten(sheet);
        }

        int asAged(int sheet) {
            trace += 100000;
            int years = found.sheets.youngs[sheet] - found.sheets.olds[sheet] + 1;
            return asSign(sheet) - years / 100;
        }
    }
}
