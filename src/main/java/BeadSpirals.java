/**
 * A workshop for beadwork by a chart: what each call promises stands in the document of the
 * project (DOC.md). No call makes an array or an object but the exception that it throws: all rows
 * are made with the workshop and used again.
 */
public final class BeadSpirals {
    public static final int NONE = -1;

    private static final int COLOURS = 6;
    private static final int MOST_ROWS = 10;
    private static final int MOST_COLUMNS = 12;
    private static final int MOST_BEADS = 240;
    private static final int MOST_STRINGS = 48;
    private static final int MOST_BOUGHT_AT_ONCE = 100;
    private static final int MOST_BOUGHT = 600;
    private static final int MOST_STRUNG_AT_ONCE = 60;
    private static final int MOST_CODES = 60;
    private static final int LEAST_CODE = 33;
    private static final int GREATEST_CODE = 126;
    private static final int MOST_SAVED = 6;

    private static final int AROUND = 0;
    private static final int SLANT = 1;
    private static final int HOLDS = 2;
    private static final int HIDING = 3;
    private static final int SETTINGS = 4;
    private static final int[] LEAST_VALUE = {3, 0, 5, 0};
    private static final int[] GREATEST_VALUE = {15, 11, 240, 5};
    private static final int[] FIRST_VALUE = {6, 1, 40, 0};

    private static final int COLUMNS_OPPOSITE = 0;
    private static final int ROWS_OPPOSITE = 1;
    private static final int FIRST_COLUMN_LAST = 2;
    private static final int FIRST_ROW_LAST = 3;
    private static final int ROWS_BECOME_COLUMNS = 4;
    private static final int TURNS = 5;

    private static final int COUNTS = 13;
    private static final int COLOUR_NUMBERS = 6;
    private static final int BEAD_NUMBERS = 4;
    private static final int STRING_NUMBERS = 4;
    private static final int PATTERN_NUMBERS = 4;

    private static final long FIRST_HASH = 2351L;
    private static final int NEEDED_IN_HASH = 60;
    private static final int PLANNED_IN_HASH = 120;
    private static final int PLANNED_STRINGS_IN_HASH = 8;

    private final Work now;
    private final History history;
    private final Text text;
    /** A chart to try things with; what it holds between two calls does not matter. */
    private final Chart spare;
    /** The colours of beads that are about to be strung. */
    private final int[] fresh;

    public BeadSpirals() {
        now = new Work();
        history = new History();
        text = new Text();
        spare = new Chart();
        fresh = new int[MOST_BEADS];
    }

    // ---- the chart and settings

    public int load() throws IllegalArgumentException, IllegalStateException {
        if (!text.isComplete(true)) {
            throw new IllegalArgumentException("the buffer is not a complete chart");
        }
        if (!text.readChart(spare, fresh)) {
            throw new IllegalStateException("too many rows, too many columns, or unequal rows");
        }
        history.save(now);
        now.chart.copyFrom(spare);
        text.empty();
        return now.chart.rows;
    }

    public int turn(int how) throws IllegalArgumentException, IllegalStateException {
        if (how < 0 || how >= TURNS) {
            throw new IllegalArgumentException("no such way to turn");
        }
        if (!now.chart.canTurn(how)) {
            throw new IllegalStateException("too many rows");
        }
        history.save(now);
        now.chart.turnInto(spare, how);
        now.chart.copyFrom(spare);
        return now.chart.rows;
    }

    public int recolour(int one, int other) throws IllegalArgumentException {
        if (!isColour(one) || !isColour(other)) {
            throw new IllegalArgumentException("no such colour");
        }
        history.save(now);
        return now.chart.swapColours(one, other);
    }

    public int set(int setting, int value)
            throws IndexOutOfBoundsException, IllegalArgumentException {
        if (!isSetting(setting)) {
            throw new IndexOutOfBoundsException("no such setting");
        }
        if (value < at(LEAST_VALUE, setting) || value > at(GREATEST_VALUE, setting)) {
            throw new IllegalArgumentException("value out of range");
        }
        history.save(now);
        int previous = at(now.settings, setting);
        put(now.settings, setting, value);
        return previous;
    }

    // ---- beads and strings

    public int buy(int colour, int many) throws IllegalArgumentException, IllegalStateException {
        if (!isColour(colour) || many < 1 || many > MOST_BOUGHT_AT_ONCE) {
            throw new IllegalArgumentException("colour or number of beads out of range");
        }
        if (at(now.bought, colour) + many > MOST_BOUGHT) {
            throw new IllegalStateException("too many beads of this colour bought");
        }
        history.save(now);
        add(now.bought, colour, many);
        add(now.stock, colour, many);
        return at(now.stock, colour);
    }

    public int string(int colour, int many)
            throws IllegalArgumentException, IllegalStateException {
        if (!isColour(colour) || !canBeStrungAtOnce(many)) {
            throw new IllegalArgumentException("colour or number of beads out of range");
        }
        for (int i = 0; i < many; i++) {
            put(fresh, i, colour);
        }
        return stringFresh(many);
    }

    public int stringNext(int many) throws IllegalArgumentException, IllegalStateException {
        if (!canBeStrungAtOnce(many)) {
            throw new IllegalArgumentException("number of beads out of range");
        }
        for (int i = 0; i < many; i++) {
            put(fresh, i, now.patternColour(now.beadCount + i));
        }
        return stringFresh(many);
    }

    public int stringRow() throws IllegalArgumentException, IllegalStateException {
        if (!text.isComplete(false)) {
            throw new IllegalArgumentException("the buffer is not a complete row of beads");
        }
        int strung = stringFresh(text.readWhole(fresh));
        text.empty();
        return strung;
    }

    public int join() throws IllegalStateException {
        if (now.lengthOf(now.stringCount - 1) == 0 || now.stringCount >= MOST_STRINGS) {
            throw new IllegalStateException("the last string is empty, or it is the last allowed");
        }
        history.save(now);
        put(now.begins, now.stringCount, now.beadCount);
        now.stringCount++;
        return now.isHidden(now.stringCount - 1) ? 1 : 0;
    }

    public int crush(int bead) throws IndexOutOfBoundsException {
        if (!isStrung(bead)) {
            throw new IndexOutOfBoundsException("no such bead");
        }
        history.save(now);
        now.crushBead(bead);
        return now.beadCount;
    }

    public int unpick(int many) throws IllegalArgumentException, IllegalStateException {
        if (many < 1 || many > MOST_BEADS) {
            throw new IllegalArgumentException("number of beads out of range");
        }
        if (many > now.beadCount) {
            throw new IllegalStateException("there are fewer beads");
        }
        history.save(now);
        now.takeOff(many);
        return now.beadCount;
    }

    // ---- texts

    public int append(int code) throws IllegalArgumentException, IllegalStateException {
        if (code < LEAST_CODE || code > GREATEST_CODE) {
            throw new IllegalArgumentException("no such character");
        }
        if (text.length >= MOST_CODES) {
            throw new IllegalStateException("the buffer is full");
        }
        put(text.codes, text.length, code);
        text.length++;
        return text.length;
    }

    public int clearBuffer() {
        int length = text.length;
        text.empty();
        return length;
    }

    public int firstError(boolean isChart) {
        return text.errorIndex(isChart);
    }

    public int undo() throws IllegalStateException {
        if (history.many == 0) {
            throw new IllegalStateException("no state is saved");
        }
        history.restore(now);
        return history.many;
    }

    // ---- what there is

    public int cell(int row, int column) throws IndexOutOfBoundsException {
        if (row < 0 || row >= now.chart.rows || column < 0 || column >= now.chart.columns) {
            throw new IndexOutOfBoundsException("no such cell");
        }
        return now.chart.cellAt(row, column);
    }

    public int pattern(int bead, int what) throws IllegalArgumentException {
        if (bead < 0 || bead >= MOST_BEADS || what < 0 || what >= PATTERN_NUMBERS) {
            throw new IllegalArgumentException("bead or what out of range");
        }
        return now.patternNumber(bead, what);
    }

    public int bead(int bead, int what)
            throws IndexOutOfBoundsException, IllegalArgumentException {
        if (!isStrung(bead)) {
            throw new IndexOutOfBoundsException("no such bead");
        }
        if (what < 0 || what >= BEAD_NUMBERS) {
            throw new IllegalArgumentException("no such property");
        }
        return now.beadNumber(bead, what);
    }

    public int strand(int strand, int what)
            throws IndexOutOfBoundsException, IllegalArgumentException {
        if (strand < 0 || strand >= now.stringCount) {
            throw new IndexOutOfBoundsException("no such string");
        }
        if (what < 0 || what >= STRING_NUMBERS) {
            throw new IllegalArgumentException("no such property");
        }
        return now.stringNumber(strand, what);
    }

    public int colour(int colour, int what) throws IllegalArgumentException {
        if (!isColour(colour) || what < 0 || what >= COLOUR_NUMBERS) {
            throw new IllegalArgumentException("colour or what out of range");
        }
        return now.colourNumber(colour, what);
    }

    public int count(int what) throws IllegalArgumentException {
        if (what < 0 || what >= COUNTS) {
            throw new IllegalArgumentException("no such number");
        }
        return numberOf(what);
    }

    public int setting(int setting) throws IndexOutOfBoundsException {
        if (!isSetting(setting)) {
            throw new IndexOutOfBoundsException("no such setting");
        }
        return at(now.settings, setting);
    }

    // ---- what would be; nothing is changed

    public int needed(int colour, int total) throws IllegalArgumentException {
        if (!isColour(colour) || !isTotal(total)) {
            throw new IllegalArgumentException("colour or total out of range");
        }
        return now.neededBeads(colour, total);
    }

    public int plan(int total, int strand) throws IllegalArgumentException {
        if (!isTotal(total) || strand < NONE || strand >= MOST_STRINGS) {
            throw new IllegalArgumentException("total or strand out of range");
        }
        return now.plannedNumber(total, strand);
    }

    public int firstWrong() {
        return now.firstWrongBead();
    }

    public int bestCrush() {
        return now.rightByCrushing();
    }

    public int bestSlant() {
        int best = 0;
        int fewest = MOST_BEADS + 1;
        for (int slant = 0; slant <= at(GREATEST_VALUE, SLANT); slant++) {
            int wrong = now.wrongBeadsBy(now.chart, slant);
            if (wrong < fewest) {
                fewest = wrong;
                best = slant;
            }
        }
        return best;
    }

    public int bestTurn() {
        int slant = at(now.settings, SLANT);
        int best = NONE;
        int fewest = now.wrongBeadsBy(now.chart, slant);
        for (int how = 0; how < TURNS; how++) {
            if (now.chart.canTurn(how)) {
                now.chart.turnInto(spare, how);
                int wrong = now.wrongBeadsBy(spare, slant);
                if (wrong < fewest) {
                    fewest = wrong;
                    best = how;
                }
            }
        }
        return best;
    }

    public double wrongShare() {
        if (now.beadCount < 1) {
            return 0.0;
        }
        return (double) now.wrongBetween(0, now.beadCount) / (double) now.beadCount;
    }

    public long digest() {
        long hash = FIRST_HASH;
        for (int what = 0; what < COUNTS; what++) {
            hash = mixed(hash, numberOf(what));
        }
        for (int setting = 0; setting < SETTINGS; setting++) {
            hash = mixed(hash, at(now.settings, setting));
        }
        hash = hashOfCells(hash);
        hash = hashOfColours(hash);
        hash = hashOfBeads(hash);
        hash = hashOfStrings(hash);
        hash = hashOfPlans(hash);
        hash = mixed(hash, firstWrong());
        hash = mixed(hash, bestCrush());
        hash = mixed(hash, bestSlant());
        hash = mixed(hash, bestTurn());
        hash = mixed(hash, bitsOf(wrongShare()));
        return hashOfBuffer(hash);
    }

    // ---- parts of the calls above

    private int stringFresh(int many) throws IllegalStateException {
        if (!now.canTake(fresh, many)) {
            throw new IllegalStateException("not enough beads in the stock, or no room for them");
        }
        history.save(now);
        now.takeOn(fresh, many);
        return now.beadCount;
    }

    private int numberOf(int what) {
        switch (what) {
            case 0: return now.chart.rows;
            case 1: return now.chart.columns;
            case 2: return now.beadCount;
            case 3: return now.stringCount;
            case 4: return now.wrongBetween(0, now.beadCount);
            case 5: return now.openKnots();
            case 6: return sum(now.stock);
            case 7: return sum(now.bought);
            case 8: return sum(now.crushed);
            case 9: return now.unpicked;
            case 10: return now.chart.differentColours();
            case 11: return Math.max(0, now.room());
            default: return history.many;
        }
    }

    private boolean isStrung(int bead) {
        return bead >= 0 && bead < now.beadCount;
    }

    private static boolean isColour(int colour) {
        return colour >= 0 && colour < COLOURS;
    }

    private static boolean isSetting(int setting) {
        return setting >= 0 && setting < SETTINGS;
    }

    private static boolean isTotal(int total) {
        return total >= 1 && total <= MOST_BEADS;
    }

    private static boolean canBeStrungAtOnce(int many) {
        return many >= 1 && many <= MOST_STRUNG_AT_ONCE;
    }

    // ---- parts of the digest

    private static long mixed(long hash, long value) {
        return 31L * hash + value;
    }

    private long hashOfCells(long before) {
        long hash = before;
        for (int row = 0; row < now.chart.rows; row++) {
            for (int column = 0; column < now.chart.columns; column++) {
                hash = mixed(hash, now.chart.cellAt(row, column));
            }
        }
        return hash;
    }

    private long hashOfColours(long before) {
        long hash = before;
        for (int colour = 0; colour < COLOURS; colour++) {
            for (int what = 0; what < COLOUR_NUMBERS; what++) {
                hash = mixed(hash, now.colourNumber(colour, what));
            }
            hash = mixed(hash, now.neededBeads(colour, NEEDED_IN_HASH));
        }
        return hash;
    }

    private long hashOfBeads(long before) {
        long hash = before;
        for (int bead = 0; bead < now.beadCount; bead++) {
            for (int what = 0; what < BEAD_NUMBERS; what++) {
                hash = mixed(hash, now.beadNumber(bead, what));
            }
        }
        return hash;
    }

    private long hashOfStrings(long before) {
        long hash = before;
        for (int string = 0; string < now.stringCount; string++) {
            for (int what = 0; what < STRING_NUMBERS; what++) {
                hash = mixed(hash, now.stringNumber(string, what));
            }
        }
        return hash;
    }

    private long hashOfPlans(long before) {
        long hash = mixed(before, now.plannedNumber(PLANNED_IN_HASH, NONE));
        for (int string = 0; string < PLANNED_STRINGS_IN_HASH; string++) {
            hash = mixed(hash, now.plannedNumber(PLANNED_IN_HASH, string));
        }
        return hash;
    }

    private long hashOfBuffer(long before) {
        long hash = mixed(before, text.length);
        for (int i = 0; i < text.length; i++) {
            hash = mixed(hash, at(text.codes, i));
        }
        return hash;
    }

    /**
     * The bits of a share as Double.doubleToLongBits answers them; LANGUAGE.md does not list that
     * function. A share is 0, or from 1/240 to 1: doubling it until it is at least 1, and taking 1
     * off then, is exact.
     */
    private static long bitsOf(double share) {
        if (share <= 0.0) {
            return 0L;
        }
        double scaled = share;
        long exponent = 1023L;
        for (int i = 0; i < 64 && scaled < 1.0; i++) {
            scaled = scaled * 2.0;
            exponent--;
        }
        return (exponent << 52) + (long) ((scaled - 1.0) * 4503599627370496.0);
    }

    // ---- rows of numbers; every index and divisor is looked at here

    private static int at(int[] row, int index) {
        if (row == null || index < 0 || index >= row.length) {
            return 0;
        }
        return row[index];
    }

    private static void put(int[] row, int index, int value) {
        if (row == null || index < 0 || index >= row.length) {
            return;
        }
        row[index] = value;
    }

    private static void add(int[] row, int index, int more) {
        put(row, index, at(row, index) + more);
    }

    private static void copy(int[] from, int[] to) {
        if (from == null || to == null) {
            return;
        }
        for (int i = 0; i < from.length && i < to.length; i++) {
            to[i] = from[i];
        }
    }

    private static int sum(int[] row) {
        if (row == null) {
            return 0;
        }
        int total = 0;
        for (int i = 0; i < row.length; i++) {
            total += row[i];
        }
        return total;
    }

    /** How often a value stands among the first numbers of a row. */
    private static int occurrences(int[] row, int many, int value) {
        int found = 0;
        for (int i = 0; i < many; i++) {
            if (at(row, i) == value) {
                found++;
            }
        }
        return found;
    }

    private static int quotient(int number, int divisor) {
        return divisor < 1 ? 0 : number / divisor;
    }

    private static int remainder(int number, int divisor) {
        return divisor < 1 ? 0 : number % divisor;
    }

    /** Colours in rows and columns, and the spiral that reads them. */
    private static final class Chart {
        private final int[] cells;
        private int rows;
        private int columns;

        private Chart() {
            cells = new int[MOST_ROWS * MOST_COLUMNS];
            rows = 1;
            columns = 1;
        }

        private void copyFrom(Chart other) {
            if (other == null) {
                return;
            }
            rows = other.rows;
            columns = other.columns;
            copy(other.cells, cells);
        }

        private int cellAt(int row, int column) {
            return at(cells, row * MOST_COLUMNS + column);
        }

        private void putCell(int row, int column, int colour) {
            put(cells, row * MOST_COLUMNS + column, colour);
        }

        /** The index of the cell that the spiral reads for a bead. */
        private int placeFor(int bead, int around, int slant) {
            if (around < 1 || rows < 1 || columns < 1) {
                return 0;
            }
            int round = bead / around;
            return round % rows * MOST_COLUMNS + (bead % around + slant * round) % columns;
        }

        private int cellsOf(int colour) {
            int found = 0;
            for (int row = 0; row < rows; row++) {
                for (int column = 0; column < columns; column++) {
                    if (cellAt(row, column) == colour) {
                        found++;
                    }
                }
            }
            return found;
        }

        private int differentColours() {
            int found = 0;
            for (int colour = 0; colour < COLOURS; colour++) {
                if (cellsOf(colour) > 0) {
                    found++;
                }
            }
            return found;
        }

        /** Returns how many cells change. */
        private int swapColours(int one, int other) {
            if (one == other) {
                return 0;
            }
            int changed = 0;
            for (int row = 0; row < rows; row++) {
                for (int column = 0; column < columns; column++) {
                    int colour = cellAt(row, column);
                    if (colour == one || colour == other) {
                        putCell(row, column, colour == one ? other : one);
                        changed++;
                    }
                }
            }
            return changed;
        }

        private boolean canTurn(int how) {
            return how != ROWS_BECOME_COLUMNS || columns <= MOST_ROWS;
        }

        private void turnInto(Chart to, int how) {
            if (to == null) {
                return;
            }
            boolean swapped = how == ROWS_BECOME_COLUMNS;
            int turnedRows = swapped ? columns : rows;
            int turnedColumns = swapped ? rows : columns;
            for (int row = 0; row < turnedRows; row++) {
                for (int column = 0; column < turnedColumns; column++) {
                    to.putCell(row, column, turnedCell(row, column, how));
                }
            }
            to.rows = turnedRows;
            to.columns = turnedColumns;
        }

        private int turnedCell(int row, int column, int how) {
            switch (how) {
                case COLUMNS_OPPOSITE: return cellAt(row, columns - 1 - column);
                case ROWS_OPPOSITE: return cellAt(rows - 1 - row, column);
                case FIRST_COLUMN_LAST: return cellAt(row, remainder(column + 1, columns));
                case FIRST_ROW_LAST: return cellAt(remainder(row + 1, rows), column);
                default: return cellAt(column, row);
            }
        }
    }

    /** All that undo brings back: the chart, the settings, the beads and their strings. */
    private static final class Work {
        private final Chart chart;
        private final int[] settings;
        private final int[] stock;
        private final int[] bought;
        private final int[] crushed;
        private final int[] beads;
        private final int[] begins;
        private int beadCount;
        private int stringCount;
        private int unpicked;

        private Work() {
            chart = new Chart();
            settings = new int[SETTINGS];
            copy(FIRST_VALUE, settings);
            stock = new int[COLOURS];
            bought = new int[COLOURS];
            crushed = new int[COLOURS];
            beads = new int[MOST_BEADS];
            begins = new int[MOST_STRINGS];
            beadCount = 0;
            stringCount = 1;
            unpicked = 0;
        }

        private void copyFrom(Work other) {
            if (other == null) {
                return;
            }
            chart.copyFrom(other.chart);
            copy(other.settings, settings);
            copy(other.stock, stock);
            copy(other.bought, bought);
            copy(other.crushed, crushed);
            copy(other.beads, beads);
            copy(other.begins, begins);
            beadCount = other.beadCount;
            stringCount = other.stringCount;
            unpicked = other.unpicked;
        }

        private int patternColour(int bead) {
            int place = chart.placeFor(bead, at(settings, AROUND), at(settings, SLANT));
            return at(chart.cells, place);
        }

        private int patternNumber(int bead, int what) {
            int around = at(settings, AROUND);
            int place = chart.placeFor(bead, around, at(settings, SLANT));
            switch (what) {
                case 0: return at(chart.cells, place);
                case 1: return quotient(bead, around);
                case 2: return place / MOST_COLUMNS;
                default: return place % MOST_COLUMNS;
            }
        }

        // ---- what there is

        private boolean isWrong(int bead) {
            return at(beads, bead) != patternColour(bead);
        }

        private int wrongBetween(int begin, int end) {
            int wrong = 0;
            for (int bead = begin; bead < end; bead++) {
                if (isWrong(bead)) {
                    wrong++;
                }
            }
            return wrong;
        }

        private int wrongOf(int colour) {
            int wrong = 0;
            for (int bead = 0; bead < beadCount; bead++) {
                if (at(beads, bead) == colour && isWrong(bead)) {
                    wrong++;
                }
            }
            return wrong;
        }

        private int endOf(int string) {
            return string + 1 < stringCount ? at(begins, string + 1) : beadCount;
        }

        private int lengthOf(int string) {
            return endOf(string) - at(begins, string);
        }

        private int stringOf(int bead) {
            for (int string = stringCount - 1; string > 0; string--) {
                if (at(begins, string) <= bead) {
                    return string;
                }
            }
            return 0;
        }

        /** Whether the knot ahead of a string is hidden. */
        private boolean isHidden(int string) {
            return patternColour(at(begins, string)) == at(settings, HIDING);
        }

        private int openKnots() {
            int open = 0;
            for (int string = 1; string < stringCount; string++) {
                if (!isHidden(string)) {
                    open++;
                }
            }
            return open;
        }

        /** How many beads the last string can still hold; below 0 if it has more than it could. */
        private int room() {
            return at(settings, HOLDS) - lengthOf(stringCount - 1);
        }

        private int beadNumber(int bead, int what) {
            switch (what) {
                case 0: return at(beads, bead);
                case 1: return isWrong(bead) ? 1 : 0;
                case 2: return stringOf(bead);
                default: return bead - at(begins, stringOf(bead));
            }
        }

        private int stringNumber(int string, int what) {
            switch (what) {
                case 0: return at(begins, string);
                case 1: return lengthOf(string);
                case 2: return string == 0 ? NONE : isHidden(string) ? 1 : 0;
                default: return wrongBetween(at(begins, string), endOf(string));
            }
        }

        private int colourNumber(int colour, int what) {
            switch (what) {
                case 0: return at(stock, colour);
                case 1: return at(bought, colour);
                case 2: return occurrences(beads, beadCount, colour);
                case 3: return at(crushed, colour);
                case 4: return chart.cellsOf(colour);
                default: return wrongOf(colour);
            }
        }

        // ---- beads come and go

        private boolean canTake(int[] fresh, int many) {
            if (beadCount + many > MOST_BEADS || many > room()) {
                return false;
            }
            for (int colour = 0; colour < COLOURS; colour++) {
                if (occurrences(fresh, many, colour) > at(stock, colour)) {
                    return false;
                }
            }
            return true;
        }

        private void takeOn(int[] fresh, int many) {
            for (int i = 0; i < many; i++) {
                int colour = at(fresh, i);
                put(beads, beadCount + i, colour);
                add(stock, colour, -1);
            }
            beadCount += many;
        }

        private void takeOff(int many) {
            int left = beadCount - many;
            for (int bead = left; bead < beadCount; bead++) {
                add(stock, at(beads, bead), 1);
            }
            beadCount = left;
            unpicked += many;
            int kept = 1;
            for (int string = 1; string < stringCount; string++) {
                if (at(begins, string) <= left) {
                    kept++;
                }
            }
            stringCount = kept;
        }

        private void crushBead(int bead) {
            int string = stringOf(bead);
            boolean goes = lengthOf(string) == 1 && string < stringCount - 1;
            add(crushed, at(beads, bead), 1);
            for (int i = bead + 1; i < beadCount; i++) {
                put(beads, i - 1, at(beads, i));
            }
            for (int i = string + 1; i < stringCount; i++) {
                put(begins, goes ? i - 1 : i, at(begins, i) - 1);
            }
            beadCount--;
            if (goes) {
                stringCount--;
            }
        }

        // ---- what would be

        private int neededBeads(int colour, int total) {
            int found = 0;
            for (int bead = 0; bead < total; bead++) {
                if (patternColour(bead) == colour) {
                    found++;
                }
            }
            return found;
        }

        /**
         * Each string goes on to the last place that it can reach and where a knot is hidden: from
         * a later place no more strings are needed than from an earlier one, so this row has the
         * fewest strings, and each of them begins as late as it can.
         */
        private int plannedNumber(int total, int string) {
            int holds = at(settings, HOLDS);
            int begin = 0;
            int strings = 1;
            int asked = string == 0 ? 0 : NONE;
            for (int step = 0; step < MOST_BEADS && begin + holds < total; step++) {
                begin = lastHiddenPlace(begin + 1, begin + holds);
                if (begin == NONE) {
                    return NONE;
                }
                if (strings == string) {
                    asked = begin;
                }
                strings++;
            }
            return string == NONE ? strings : asked;
        }

        private int lastHiddenPlace(int first, int last) {
            for (int place = last; place >= first; place--) {
                if (patternColour(place) == at(settings, HIDING)) {
                    return place;
                }
            }
            return NONE;
        }

        private int firstWrongBead() {
            for (int bead = 0; bead < beadCount; bead++) {
                if (isWrong(bead)) {
                    return bead;
                }
            }
            return NONE;
        }

        /** Keeps each bead that is right for the next number; more can't be kept. */
        private int rightByCrushing() {
            int kept = 0;
            for (int bead = 0; bead < beadCount; bead++) {
                if (at(beads, bead) == patternColour(kept)) {
                    kept++;
                }
            }
            return kept;
        }

        private int wrongBeadsBy(Chart by, int slant) {
            if (by == null) {
                return 0;
            }
            int around = at(settings, AROUND);
            int wrong = 0;
            for (int bead = 0; bead < beadCount; bead++) {
                if (at(beads, bead) != at(by.cells, by.placeFor(bead, around, slant))) {
                    wrong++;
                }
            }
            return wrong;
        }
    }

    /** The saved states: a ring, in which the oldest one is overwritten first. */
    private static final class History {
        private final Work[] saved;
        private int oldest;
        private int many;

        private History() {
            saved = new Work[MOST_SAVED];
            for (int i = 0; i < saved.length; i++) {
                saved[i] = new Work();
            }
            oldest = 0;
            many = 0;
        }

        private Work slot(int age) {
            int index = (oldest + age) % MOST_SAVED;
            if (index < 0 || index >= saved.length) {
                return null;
            }
            return saved[index];
        }

        private void save(Work now) {
            if (many >= MOST_SAVED) {
                oldest = (oldest + 1) % MOST_SAVED;
                many--;
            }
            Work free = slot(many);
            if (free != null) {
                free.copyFrom(now);
                many++;
            }
        }

        private void restore(Work now) {
            if (many < 1 || now == null) {
                return;
            }
            now.copyFrom(slot(many - 1));
            many--;
        }
    }

    /** The buffer, and how it is read. */
    private static final class Text {
        /** What stands directly ahead of the place where the reading is. */
        private static final int NO_PART = 0;
        private static final int PART = 1;
        private static final int ONE = 2;
        private static final int TWO_TO_FIVE = 3;
        private static final int SIX = 4;
        private static final int WHOLE_NUMBER = 5;
        private static final int ERROR = 6;

        private final int[] codes;
        private int length;

        private Text() {
            codes = new int[MOST_CODES];
            length = 0;
        }

        private void empty() {
            length = 0;
        }

        private int errorIndex(boolean isChart) {
            int state = NO_PART;
            for (int i = 0; i < length; i++) {
                state = stateBehind(state, at(codes, i), isChart);
                if (state == ERROR) {
                    return i;
                }
            }
            return length;
        }

        /** A text without errors is complete if it ends with a part, so with a letter. */
        private boolean isComplete(boolean isChart) {
            return length > 0 && errorIndex(isChart) == length && isLetter(at(codes, length - 1));
        }

        private static int stateBehind(int state, int code, boolean isChart) {
            switch (state) {
                case NO_PART: return stateInPart(code);
                case PART: return isChart && code == '/' ? NO_PART : stateInPart(code);
                case ONE: return isDigit(code) ? WHOLE_NUMBER : ERROR;
                case TWO_TO_FIVE: return isDigit(code) ? WHOLE_NUMBER : stateBehindNumber(code);
                case SIX: return code == '0' ? WHOLE_NUMBER : stateBehindNumber(code);
                case WHOLE_NUMBER: return stateBehindNumber(code);
                default: return ERROR;
            }
        }

        /** The numbers are 2 to 60: what may follow depends on their first digit. */
        private static int stateInPart(int code) {
            if (!isDigit(code)) {
                return stateBehindNumber(code);
            }
            switch (code) {
                case '0': return ERROR;
                case '1': return ONE;
                case '6': return SIX;
                default: return code < '6' ? TWO_TO_FIVE : WHOLE_NUMBER;
            }
        }

        private static int stateBehindNumber(int code) {
            return isLetter(code) ? PART : ERROR;
        }

        private static boolean isLetter(int code) {
            return code >= 'a' && code <= 'f';
        }

        private static boolean isDigit(int code) {
            return code >= '0' && code <= '9';
        }

        /** Of a complete row; returns how many beads it has: the array may have room for fewer. */
        private int readWhole(int[] to) {
            return readBeads(to, 0, length);
        }

        private int readBeads(int[] to, int begin, int end) {
            int total = 0;
            int number = 0;
            for (int i = begin; i < end; i++) {
                int code = at(codes, i);
                if (isDigit(code)) {
                    number = 10 * number + code - '0';
                } else {
                    int last = total + Math.max(1, number);
                    for (int bead = total; bead < last; bead++) {
                        put(to, bead, code - 'a');
                    }
                    total = last;
                    number = 0;
                }
            }
            return total;
        }

        /** Of a complete chart; returns whether it can be one: what is in it is free otherwise. */
        private boolean readChart(Chart to, int[] rowOfBeads) {
            if (to == null) {
                return false;
            }
            int rows = 0;
            int columns = 0;
            int begin = 0;
            for (int end = 0; end <= length; end++) {
                if (end == length || at(codes, end) == '/') {
                    int width = readBeads(rowOfBeads, begin, end);
                    if (rows >= MOST_ROWS || width > MOST_COLUMNS || rows > 0 && width != columns) {
                        return false;
                    }
                    for (int column = 0; column < width; column++) {
                        to.putCell(rows, column, at(rowOfBeads, column));
                    }
                    columns = width;
                    rows++;
                    begin = end + 1;
                }
            }
            to.rows = rows;
            to.columns = columns;
            return true;
        }
    }
}
