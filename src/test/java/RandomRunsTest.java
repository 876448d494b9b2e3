/** Runs of up to 512 calls, drawn by a fixed rule, on the program and on NaiveBeads. */
public final class RandomRunsTest {
    private static final String[] CHARTS = {"ab", "abc/bca/cab", "2ab/a2b/3c", "a5b", "5ab/6a",
        "11a", "12a/12b", "abcdef", "a/b/c/d/e/f/a/b/c/d", "2a3b2c", "a/b", "aab/aba/baa", "10ab",
        "a9bc", "a8bc/9ab"};
    private static final String[] ROWS = {"ab", "2ab", "abc", "4a", "3a2bc", "5b", "12ab", "abab",
        "60a", "30a30b", "f", "ed"};
    private static final String SIGNS = "abcdef0123456789/ag1a/b";

    private final Workshop x = new Workshop();
    private final NaiveBeads naive = new NaiveBeads();
    private final int run;
    private long seed;

    private RandomRunsTest(int run) {
        this.run = run;
        seed = 7919L * run + 17;
    }

    public static void main(String[] args) {
        for (int run = 0; run < 400; run++) {
            new RandomRunsTest(run).go();
        }
        Check.finish();
    }

    /** From 0 to bound - 1. */
    private int draw(int bound) {
        seed = seed * 6364136223846793005L + 1442695040888963407L;
        return (int) ((seed >>> 33) % bound);
    }

    /** Mostly in the range, at times one beyond it, and at times far away. */
    private int near(int least, int greatest) {
        int kind = draw(60);
        if (kind == 0) {
            return least - 1;
        }
        if (kind == 1) {
            return greatest + 1;
        }
        if (kind == 2) {
            return draw(2) == 0 ? Integer.MIN_VALUE : Integer.MAX_VALUE;
        }
        if (kind < 10) {
            return draw(2) == 0 ? least : greatest;
        }
        return least + draw(greatest - least + 1);
    }

    private void go() {
        int calls = 0;
        if (run % 2 == 0) {
            for (int colour = 0; colour < 6; colour++) {
                int one = colour;
                for (int i = 0; i < 4; i++) {
                    due("buy " + colour, () -> x.buy(one, 60 + run % 41), naive.buy(one, 60 + run % 41));
                    calls++;
                }
            }
        }
        while (calls < 430) {
            calls += draw(3) == 0 ? look() : change();
            if (draw(8) == 0) {
                dueDigest();
                calls++;
            }
        }
        dueDigest();
    }

    private void dueDigest() {
        Check.due("run " + run + ": digest", x.digest(), naive.digest());
    }

    private void due(String call, Check.Call got, String want) {
        String answer;
        try {
            answer = "" + got.answer();
        } catch (IllegalArgumentException e) {
            answer = "arg";
        } catch (IllegalStateException e) {
            answer = "state";
        } catch (IndexOutOfBoundsException e) {
            answer = e.getClass() == IndexOutOfBoundsException.class ? "index" : "machine";
        }
        Check.dueText("run " + run + ": " + call, answer, want);
    }

    private int append(String text) {
        for (char sign : text.toCharArray()) {
            due("append", () -> x.append(sign), naive.append(sign));
        }
        return text.length();
    }

    private int change() {
        int a;
        int b;
        switch (draw(20)) {
            case 0:
                due("clearBuffer", x::clearBuffer, naive.clearBuffer());
                a = append(CHARTS[draw(CHARTS.length)]);
                due("load", x::load, naive.load());
                return a + 2;
            case 1:
                a = near(0, 4);
                due("turn " + a, () -> x.turn(a), naive.turn(a));
                return 1;
            case 2:
                a = near(0, 5);
                b = near(0, 3);
                due("recolour " + a + " " + b, () -> x.recolour(a, b), naive.recolour(a, b));
                return 1;
            case 3: case 4:
                a = near(0, 3);
                b = a == 0 ? near(3, 15) : a == 1 ? near(0, 11) : a == 2
                        ? near(5, draw(2) == 0 ? 240 : 30) : near(0, 5);
                due("set " + a + " " + b, () -> x.set(a, b), naive.set(a, b));
                return 1;
            case 5: case 6:
                a = near(0, 5);
                b = near(1, 100);
                due("buy " + a + " " + b, () -> x.buy(a, b), naive.buy(a, b));
                return 1;
            case 7:
                a = near(0, 5);
                b = draw(2) == 0 ? near(1, 60) : near(1, 6);
                due("string " + a + " " + b, () -> x.string(a, b), naive.string(a, b));
                return 1;
            case 8: case 9: case 10:
                a = draw(2) == 0 ? near(1, 60) : near(1, 9);
                due("stringNext " + a, () -> x.stringNext(a), naive.stringNext(a));
                return 1;
            case 11: case 12: case 13:
                due("join", x::join, naive.join());
                return 1;
            default:
                return changeMore();
        }
    }

    private int changeMore() {
        int a;
        switch (draw(7)) {
            case 0: case 1:
                a = near(0, Math.max(0, x.count(2) - 1));
                due("crush " + a, () -> x.crush(a), naive.crush(a));
                return 2;
            case 2:
                a = draw(3) == 0 ? near(1, 240) : near(1, 9);
                due("unpick " + a, () -> x.unpick(a), naive.unpick(a));
                return 1;
            case 3:
                a = draw(3);
                int undone = a * a;
                for (int i = 0; i < undone; i++) {
                    due("undo", x::undo, naive.undo());
                }
                return undone;
            case 4:
                due("clearBuffer", x::clearBuffer, naive.clearBuffer());
                a = append(ROWS[draw(ROWS.length)]);
                due("stringRow", x::stringRow, naive.stringRow());
                return a + 2;
            case 5:
                return noise();
            default:
                a = near(33, 126);
                due("append " + a, () -> x.append(a), naive.append(a));
                return 1;
        }
    }

    /** Signs of which many, but not all, make a text. */
    private int noise() {
        int signs = 1 + draw(6);
        for (int i = 0; i < signs; i++) {
            append(String.valueOf(SIGNS.charAt(draw(SIGNS.length()))));
        }
        due("firstError(true)", () -> x.firstError(true), naive.firstError(true));
        due("firstError(false)", () -> x.firstError(false), naive.firstError(false));
        if (draw(3) == 0) {
            due("load", x::load, naive.load());
        } else {
            due("stringRow", x::stringRow, naive.stringRow());
        }
        return signs + 3;
    }

    private int look() {
        int a;
        int b = near(0, 3);
        switch (draw(8)) {
            case 0:
                a = near(0, 9);
                int column = near(0, 11);
                due("cell", () -> x.cell(a, column), naive.cell(a, column));
                return 1;
            case 1:
                a = near(0, 239);
                due("pattern " + a + " " + b, () -> x.pattern(a, b), naive.pattern(a, b));
                return 1;
            case 2:
                a = near(0, 239);
                due("bead " + a + " " + b, () -> x.bead(a, b), naive.bead(a, b));
                return 1;
            case 3:
                a = near(0, 10);
                due("strand " + a + " " + b, () -> x.strand(a, b), naive.strand(a, b));
                return 1;
            case 4:
                a = near(0, 12);
                int colour = near(0, 5);
                int what = near(0, 5);
                due("count " + a, () -> x.count(a), naive.count(a));
                due("colour", () -> x.colour(colour, what), naive.colour(colour, what));
                due("setting", () -> x.setting(b), naive.setting(b));
                return 3;
            case 5:
                a = near(1, 240);
                int wanted = near(0, 5);
                due("needed", () -> x.needed(wanted, a), naive.needed(wanted, a));
                return 1;
            case 6:
                a = near(1, 240);
                int strand = draw(3) == 0 ? near(-1, 47) : near(-1, 8);
                due("plan " + a + " " + strand, () -> x.plan(a, strand), naive.plan(a, strand));
                return 1;
            default:
                due("firstWrong", x::firstWrong, naive.firstWrong());
                due("bestCrush", x::bestCrush, naive.bestCrush());
                due("bestSlant", x::bestSlant, naive.bestSlant());
                due("bestTurn", x::bestTurn, naive.bestTurn());
                Check.dueDouble("wrongShare", x.wrongShare(), naive.wrongShare());
                return 5;
        }
    }
}
