/** Promises 13 to 16: append, clearBuffer, firstError, undo. */
public final class TextTest {
    public static void main(String[] args) {
        promise13();
        promise14();
        promise15Numbers();
        promise15Kinds();
        promise16();
        promise16DropsTheOldest();
        Check.finish();
    }

    private static void promise13() {
        Workshop x = new Workshop();
        Check.due("append 33", x.append(33), 1);
        Check.due("append 126", x.append(126), 2);
        Check.due("append is not undoable", x.count(12), 0);
        Check.argument("append 32", x, () -> x.append(32));
        Check.argument("append 127", x, () -> x.append(127));
        Check.argument("append MIN", x, () -> x.append(Integer.MIN_VALUE));
        Check.argument("append MAX", x, () -> x.append(Integer.MAX_VALUE));
        for (int length = 3; length <= 60; length++) {
            Check.due("append", x.append('a'), length);
        }
        Check.state("append a 61st", x, () -> x.append('a'));
        Check.argument("append 32 to a full buffer", x, () -> x.append(32));
        Check.due("length then", x.clearBuffer(), 60);
    }

    private static void promise14() {
        Workshop x = new Workshop().retype("abc");
        Check.due("clearBuffer", x.clearBuffer(), 3);
        Check.due("clearBuffer again", x.clearBuffer(), 0);
        Check.due("clearBuffer is not undoable", x.count(12), 0);
        Check.due("append behind it", x.append('a'), 1);
        Check.due("what was there is gone", x.load(), 1);
    }

    private static void promise15Numbers() {
        for (int number = 0; number <= 120; number++) {
            String text = number + "a";
            boolean right = number >= 2 && number <= 60;
            // 61 to 69 and 70 to 99 fail at the second digit, 0 at once, 1 at the letter behind it
            int due = right ? text.length()
                    : number == 0 ? 0 : number == 1 ? 1 : number < 100 ? 1 : 2;
            dueErrors(text, due, due);
        }
        for (int first = 0; first <= 9; first++) {
            dueErrors("0" + first, 0, 0);
            dueErrors("a0" + first, 1, 1);
        }
        dueErrors("1", 1, 1);
        dueErrors("60", 2, 2);
        dueErrors("600", 2, 2);
        dueErrors("6", 1, 1);
        dueErrors("7a7a8b9c", 8, 8);
        dueErrors("10a19b20c59d", 12, 12);
        dueErrors("a1/", 2, 2);
        dueErrors("2/", 1, 1);
    }

    private static void promise15Kinds() {
        dueErrors("", 0, 0);
        dueErrors("abcdef", 6, 6);
        dueErrors("abcdefg", 6, 6);
        dueErrors("`", 0, 0);
        dueErrors("aA", 1, 1);
        dueErrors("a.a", 1, 1);
        dueErrors("a:a", 1, 1);
        dueErrors("/", 0, 0);
        dueErrors("a/", 2, 1);
        dueErrors("a/b", 3, 1);
        dueErrors("a//", 2, 1);
        dueErrors("ab/2c/", 6, 2);
        dueErrors("2a3/b", 3, 3);
        dueErrors("12a/".repeat(15), 60, 3);
        dueErrors("60a".repeat(20), 60, 60);
        for (int code = 33; code <= 126; code++) {
            String sign = String.valueOf((char) code);
            boolean begins = "abcdef123456789".contains(sign);
            dueErrors(sign, begins ? 1 : 0, begins ? 1 : 0);
            dueErrors("a" + sign, begins || code == '/' ? 2 : 1, begins ? 2 : 1);
            dueErrors("a/" + sign, begins ? 3 : 2, 1);
            boolean letter = "abcdef".contains(sign);
            boolean digit = "0123456789".contains(sign);
            dueErrors("1" + sign, digit ? 2 : 1, digit ? 2 : 1);
            dueErrors("2" + sign, digit || letter ? 2 : 1, digit || letter ? 2 : 1);
            dueErrors("5" + sign, digit || letter ? 2 : 1, digit || letter ? 2 : 1);
            dueErrors("6" + sign, code == '0' || letter ? 2 : 1, code == '0' || letter ? 2 : 1);
            dueErrors("7" + sign, letter ? 2 : 1, letter ? 2 : 1);
            dueErrors("20" + sign, letter ? 3 : 2, letter ? 3 : 2);
        }
    }

    private static void dueErrors(String text, int asChart, int asRow) {
        Workshop x = new Workshop().retype(text);
        long before = x.digest();
        Check.due("firstError(true) of " + text, x.firstError(true), asChart);
        Check.due("firstError(false) of " + text, x.firstError(false), asRow);
        Check.due("digest behind firstError of " + text, x.digest(), before);
    }

    private static void promise16() {
        Workshop x = new Workshop();
        x.buy(0, 10);
        x.string(0, 4);
        x.crush(0);
        x.unpick(1);
        x.retype("bc");
        x.load();
        x.set(0, 9);
        x.retype("2e");
        Check.due("undo set", x.undo(), 5);
        Check.due("around", x.setting(0), 6);
        Check.due("undo load", x.undo(), 4);
        Check.dueText("cells", x.cells(), "a");
        Check.due("undo unpick", x.undo(), 3);
        Check.due("unpicked", x.count(9), 0);
        Check.due("beads", x.count(2), 3);
        Check.due("undo crush", x.undo(), 2);
        Check.due("crushed", x.count(8), 0);
        Check.due("crushed of 0", x.colour(0, 3), 0);
        Check.due("undo string", x.undo(), 1);
        Check.due("stock", x.count(6), 10);
        Check.due("undo buy", x.undo(), 0);
        Check.due("bought", x.count(7), 0);
        Check.state("undo without a state", x, x::undo);
        Check.due("the buffer stays", x.clearBuffer(), 2);
        Check.dueAll("count", x::count, 1, 1, 0, 1, 0, 0, 0, 0, 0, 0, 1, 40, 0);
    }

    private static void promise16DropsTheOldest() {
        Workshop x = new Workshop();
        for (int many = 1; many <= 9; many++) {
            x.buy(0, many);
            Check.due("saved states", x.count(12), Math.min(many, 6));
        }
        Check.index("a call that throws saves nothing", x, () -> x.crush(0));
        int stock = 45;
        for (int many = 9; many >= 4; many--) {
            Check.due("undo", x.undo(), many - 4);
            stock -= many;
            Check.due("stock", x.count(6), stock);
        }
        Check.state("the older ones are dropped", x, x::undo);
        Check.due("stock then", x.count(6), 6);
        x.buy(1, 1);
        x.buy(2, 1);
        Check.due("undo", x.undo(), 1);
        x.buy(3, 1);
        Check.due("undo", x.undo(), 1);
        Check.due("undo", x.undo(), 0);
        Check.due("stock then", x.count(6), 6);
    }
}
