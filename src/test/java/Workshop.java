/**
 * A BeadSpirals for the tests. It counts the calls, because the document promises nothing about an
 * object after its 512th call: a test that would need more is itself wrong.
 */
final class Workshop {
    static final int MOST_CALLS = 512;

    private final BeadSpirals made = new BeadSpirals();
    private int calls = 0;

    private BeadSpirals called() {
        calls++;
        if (calls > MOST_CALLS) {
            throw new AssertionError("a test calls one object more than " + MOST_CALLS + " times");
        }
        return made;
    }

    int calls() {
        return calls;
    }

    int load() {
        return called().load();
    }

    int turn(int how) {
        return called().turn(how);
    }

    int recolour(int one, int other) {
        return called().recolour(one, other);
    }

    int set(int setting, int value) {
        return called().set(setting, value);
    }

    int buy(int colour, int many) {
        return called().buy(colour, many);
    }

    int string(int colour, int many) {
        return called().string(colour, many);
    }

    int stringNext(int many) {
        return called().stringNext(many);
    }

    int stringRow() {
        return called().stringRow();
    }

    int join() {
        return called().join();
    }

    int crush(int bead) {
        return called().crush(bead);
    }

    int unpick(int many) {
        return called().unpick(many);
    }

    int append(int code) {
        return called().append(code);
    }

    int clearBuffer() {
        return called().clearBuffer();
    }

    int firstError(boolean isChart) {
        return called().firstError(isChart);
    }

    int undo() {
        return called().undo();
    }

    int cell(int row, int column) {
        return called().cell(row, column);
    }

    int pattern(int bead, int what) {
        return called().pattern(bead, what);
    }

    int bead(int bead, int what) {
        return called().bead(bead, what);
    }

    int strand(int strand, int what) {
        return called().strand(strand, what);
    }

    int colour(int colour, int what) {
        return called().colour(colour, what);
    }

    int count(int what) {
        return called().count(what);
    }

    int setting(int setting) {
        return called().setting(setting);
    }

    int needed(int colour, int total) {
        return called().needed(colour, total);
    }

    int plan(int total, int strand) {
        return called().plan(total, strand);
    }

    int firstWrong() {
        return called().firstWrong();
    }

    int bestCrush() {
        return called().bestCrush();
    }

    int bestSlant() {
        return called().bestSlant();
    }

    int bestTurn() {
        return called().bestTurn();
    }

    double wrongShare() {
        return called().wrongShare();
    }

    long digest() {
        return called().digest();
    }

    // ---- what the tests need often

    /** Puts a text behind what is in the buffer. */
    Workshop type(String text) {
        for (int i = 0; i < text.length(); i++) {
            append(text.charAt(i));
        }
        return this;
    }

    /** Puts a text into the buffer in place of what is there. */
    Workshop retype(String text) {
        clearBuffer();
        return type(text);
    }

    Workshop loaded(String chart) {
        retype(chart).load();
        return this;
    }

    Workshop strung(String row) {
        retype(row).stringRow();
        return this;
    }

    Workshop joined() {
        join();
        return this;
    }

    Workshop having(int setting, int value) {
        set(setting, value);
        return this;
    }

    Workshop bought(int colour, int many) {
        for (int left = many; left > 0; left -= 100) {
            buy(colour, Math.min(100, left));
        }
        return this;
    }

    /** The chart as letters, with "/" between the rows. */
    String cells() {
        int rows = count(0);
        int columns = count(1);
        StringBuilder text = new StringBuilder();
        for (int row = 0; row < rows; row++) {
            text.append(row == 0 ? "" : "/");
            for (int column = 0; column < columns; column++) {
                text.append((char) ('a' + cell(row, column)));
            }
        }
        return text.toString();
    }

    /** The beads as letters. */
    String beads() {
        int beads = count(2);
        StringBuilder text = new StringBuilder();
        for (int bead = 0; bead < beads; bead++) {
            text.append((char) ('a' + bead(bead, 0)));
        }
        return text.toString();
    }

    /** The numbers at which the strings begin. */
    String begins() {
        int strings = count(3);
        StringBuilder text = new StringBuilder();
        for (int string = 0; string < strings; string++) {
            text.append(string == 0 ? "" : " ").append(strand(string, 0));
        }
        return text.toString();
    }

    /** All that undo brings back. */
    String picture() {
        StringBuilder text = new StringBuilder();
        text.append(cells()).append(' ').append(beads()).append(' ').append(begins());
        for (int setting = 0; setting < 4; setting++) {
            text.append(' ').append(setting(setting));
        }
        for (int colour = 0; colour < 6; colour++) {
            text.append(' ').append(colour(colour, 0)).append(' ').append(colour(colour, 1));
            text.append(' ').append(colour(colour, 3));
        }
        return text.append(' ').append(count(9)).toString();
    }

    /** 600 beads of each colour are in the stock. */
    static Workshop rich() {
        Workshop x = new Workshop();
        for (int colour = 0; colour < 6; colour++) {
            x.bought(colour, 600);
        }
        return x;
    }

    static Workshop withChart(String chart) {
        return new Workshop().loaded(chart);
    }

    /** As rich(), with this chart and this row of beads on one string that holds up to 240. */
    static Workshop richWith(String chart, String row) {
        Workshop x = rich().loaded(chart).having(2, 240);
        return row.isEmpty() ? x : x.strung(row);
    }
}
