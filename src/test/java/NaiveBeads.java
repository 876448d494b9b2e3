import java.util.ArrayDeque;
import java.util.ArrayList;
import java.util.List;
import java.util.regex.Pattern;

/**
 * The document once more, in the most plain way and by other means than the program: beads are
 * letters, strings are texts of letters, and what would be is found by trying all that can be.
 * A call that throws answers the exception's first letters: "arg", "state" or "index".
 */
final class NaiveBeads {
    private static final String PART = "([2-9]|[1-5][0-9]|60)?[a-f]";
    private static final Pattern ROW = Pattern.compile("(" + PART + ")+");
    private static final Pattern CHART = Pattern.compile("(" + PART + ")+(/(" + PART + ")+)*");
    private static final int[][] RANGES = {{3, 15}, {0, 11}, {5, 240}, {0, 5}};

    private List<String> chart = List.of("a");
    private int[] settings = {6, 1, 40, 0};
    private List<String> strings = List.of("");
    private int[] bought = new int[6];
    private int[] crushed = new int[6];
    private int unpicked = 0;
    private String buffer = "";
    private final ArrayDeque<Object[]> saved = new ArrayDeque<>();

    private void save() {
        saved.addLast(new Object[] {chart, settings.clone(), strings, bought.clone(),
            crushed.clone(), unpicked});
        if (saved.size() > 6) {
            saved.removeFirst();
        }
    }

    @SuppressWarnings("unchecked")
    String undo() {
        if (saved.isEmpty()) {
            return "state";
        }
        Object[] last = saved.removeLast();
        chart = (List<String>) last[0];
        settings = (int[]) last[1];
        strings = (List<String>) last[2];
        bought = (int[]) last[3];
        crushed = (int[]) last[4];
        unpicked = (Integer) last[5];
        return "" + saved.size();
    }

    // ---- texts

    private static String expanded(String parts) {
        StringBuilder row = new StringBuilder();
        String number = "";
        for (char sign : parts.toCharArray()) {
            if (Character.isDigit(sign)) {
                number += sign;
            } else {
                row.append(String.valueOf(sign).repeat(number.isEmpty() ? 1
                        : Integer.parseInt(number)));
                number = "";
            }
        }
        return row.toString();
    }

    String append(int code) {
        if (code < 33 || code > 126) {
            return "arg";
        }
        if (buffer.length() == 60) {
            return "state";
        }
        buffer += (char) code;
        return "" + buffer.length();
    }

    String clearBuffer() {
        int length = buffer.length();
        buffer = "";
        return "" + length;
    }

    /** A beginning can be gone on with if it is complete behind no sign, behind "a" or "0a". */
    String firstError(boolean isChart) {
        Pattern kind = isChart ? CHART : ROW;
        for (int i = 1; i <= buffer.length(); i++) {
            String begin = buffer.substring(0, i);
            if (!kind.matcher(begin).matches() && !kind.matcher(begin + "a").matches()
                    && !kind.matcher(begin + "0a").matches()) {
                return "" + (i - 1);
            }
        }
        return "" + buffer.length();
    }

    // ---- the chart and settings

    String load() {
        if (!CHART.matcher(buffer).matches()) {
            return "arg";
        }
        List<String> rows = new ArrayList<>();
        for (String row : buffer.split("/")) {
            rows.add(expanded(row));
        }
        for (String row : rows) {
            if (rows.size() > 10 || row.length() > 12 || row.length() != rows.get(0).length()) {
                return "state";
            }
        }
        save();
        chart = rows;
        buffer = "";
        return "" + rows.size();
    }

    private List<String> turned(int how) {
        List<String> rows = new ArrayList<>();
        if (how == 4) {
            for (int column = 0; column < chart.get(0).length(); column++) {
                StringBuilder row = new StringBuilder();
                for (String old : chart) {
                    row.append(old.charAt(column));
                }
                rows.add(row.toString());
            }
            return rows;
        }
        for (String row : chart) {
            if (how == 0) {
                rows.add(new StringBuilder(row).reverse().toString());
            } else if (how == 1) {
                rows.add(0, row);
            } else {
                rows.add(how == 2 ? row.substring(1) + row.charAt(0) : row);
            }
        }
        if (how == 3) {
            rows.add(rows.remove(0));
        }
        return rows;
    }

    String turn(int how) {
        if (how < 0 || how > 4) {
            return "arg";
        }
        if (turned(how).size() > 10) {
            return "state";
        }
        save();
        chart = turned(how);
        return "" + chart.size();
    }

    String recolour(int one, int other) {
        if (one < 0 || one > 5 || other < 0 || other > 5) {
            return "arg";
        }
        save();
        char a = (char) ('a' + one);
        char b = (char) ('a' + other);
        List<String> rows = new ArrayList<>();
        int changed = 0;
        for (String row : chart) {
            String swapped = row.replace(a, '!').replace(b, a).replace('!', b);
            for (int i = 0; i < row.length(); i++) {
                changed += row.charAt(i) == swapped.charAt(i) ? 0 : 1;
            }
            rows.add(swapped);
        }
        chart = rows;
        return "" + changed;
    }

    String set(int setting, int value) {
        if (setting < 0 || setting > 3) {
            return "index";
        }
        if (value < RANGES[setting][0] || value > RANGES[setting][1]) {
            return "arg";
        }
        save();
        int previous = settings[setting];
        settings[setting] = value;
        return "" + previous;
    }

    // ---- beads and strings

    private String row() {
        return String.join("", strings);
    }

    private static int letters(String text, int colour) {
        return (int) text.chars().filter(c -> c == 'a' + colour).count();
    }

    private int stock(int colour) {
        return bought[colour] - crushed[colour] - letters(row(), colour);
    }

    String buy(int colour, int many) {
        if (colour < 0 || colour > 5 || many < 1 || many > 100) {
            return "arg";
        }
        if (bought[colour] + many > 600) {
            return "state";
        }
        save();
        bought[colour] += many;
        return "" + stock(colour);
    }

    private String strung(String more) {
        String last = strings.get(strings.size() - 1);
        for (int colour = 0; colour < 6; colour++) {
            if (letters(more, colour) > stock(colour)) {
                return "state";
            }
        }
        if (row().length() + more.length() > 240
                || last.length() + more.length() > settings[2]) {
            return "state";
        }
        save();
        strings = new ArrayList<>(strings);
        strings.set(strings.size() - 1, last + more);
        return "" + row().length();
    }

    String string(int colour, int many) {
        if (colour < 0 || colour > 5 || many < 1 || many > 60) {
            return "arg";
        }
        return strung(String.valueOf((char) ('a' + colour)).repeat(many));
    }

    String stringNext(int many) {
        if (many < 1 || many > 60) {
            return "arg";
        }
        int begin = row().length();
        return strung(patternText(chart, settings[1], begin + many).substring(begin));
    }

    String stringRow() {
        if (!ROW.matcher(buffer).matches()) {
            return "arg";
        }
        String answer = strung(expanded(buffer));
        if (!answer.equals("state")) {
            buffer = "";
        }
        return answer;
    }

    private boolean isHidden(int string) {
        String ahead = String.join("", strings.subList(0, string));
        return patternText(chart, settings[1], 241).charAt(ahead.length()) == 'a' + settings[3];
    }

    String join() {
        if (strings.get(strings.size() - 1).isEmpty() || strings.size() == 48) {
            return "state";
        }
        save();
        strings = new ArrayList<>(strings);
        strings.add("");
        return isHidden(strings.size() - 1) ? "1" : "0";
    }

    String crush(int bead) {
        if (bead < 0 || bead >= row().length()) {
            return "index";
        }
        save();
        crushed[row().charAt(bead) - 'a']++;
        strings = new ArrayList<>(strings);
        int string = 0;
        int place = bead;
        while (place >= strings.get(string).length()) {
            place -= strings.get(string).length();
            string++;
        }
        strings.set(string, new StringBuilder(strings.get(string)).deleteCharAt(place).toString());
        if (strings.get(string).isEmpty() && string < strings.size() - 1) {
            strings.remove(string);
        }
        return "" + row().length();
    }

    String unpick(int many) {
        if (many < 1 || many > 240) {
            return "arg";
        }
        if (many > row().length()) {
            return "state";
        }
        save();
        unpicked += many;
        int left = row().length() - many;
        List<String> kept = new ArrayList<>();
        int begin = 0;
        for (String string : strings) {
            if (begin <= left) {
                kept.add(string.substring(0, Math.min(string.length(), left - begin)));
            }
            begin += string.length();
        }
        strings = kept;
        return "" + left;
    }

    // ---- what there is

    private String patternText(List<String> rows, int slant, int many) {
        StringBuilder text = new StringBuilder();
        for (int round = 0; text.length() < many; round++) {
            String row = rows.get(round % rows.size());
            for (int i = 0; i < settings[0]; i++) {
                text.append(row.charAt((i + slant * round) % row.length()));
            }
        }
        return text.substring(0, many);
    }

    private int differences(List<String> rows, int slant) {
        String row = row();
        String pattern = patternText(rows, slant, row.length());
        int wrong = 0;
        for (int i = 0; i < row.length(); i++) {
            wrong += row.charAt(i) == pattern.charAt(i) ? 0 : 1;
        }
        return wrong;
    }

    private boolean isWrong(int bead) {
        return row().charAt(bead) != patternText(chart, settings[1], bead + 1).charAt(bead);
    }

    String cell(int row, int column) {
        if (row < 0 || row >= chart.size() || column < 0 || column >= chart.get(0).length()) {
            return "index";
        }
        return "" + (chart.get(row).charAt(column) - 'a');
    }

    String pattern(int bead, int what) {
        if (bead < 0 || bead > 239 || what < 0 || what > 3) {
            return "arg";
        }
        int round = bead / settings[0];
        int row = round % chart.size();
        int column = (bead % settings[0] + settings[1] * round) % chart.get(0).length();
        int[] numbers = {chart.get(row).charAt(column) - 'a', round, row, column};
        return "" + numbers[what];
    }

    String bead(int bead, int what) {
        if (bead < 0 || bead >= row().length()) {
            return "index";
        }
        if (what < 0 || what > 3) {
            return "arg";
        }
        int string = 0;
        int place = bead;
        while (place >= strings.get(string).length()) {
            place -= strings.get(string).length();
            string++;
        }
        int[] numbers = {row().charAt(bead) - 'a', isWrong(bead) ? 1 : 0, string, place};
        return "" + numbers[what];
    }

    String strand(int strand, int what) {
        if (strand < 0 || strand >= strings.size()) {
            return "index";
        }
        if (what < 0 || what > 3) {
            return "arg";
        }
        int begin = String.join("", strings.subList(0, strand)).length();
        int length = strings.get(strand).length();
        int wrong = 0;
        for (int bead = begin; bead < begin + length; bead++) {
            wrong += isWrong(bead) ? 1 : 0;
        }
        int[] numbers = {begin, length, strand == 0 ? -1 : isHidden(strand) ? 1 : 0, wrong};
        return "" + numbers[what];
    }

    String colour(int colour, int what) {
        if (colour < 0 || colour > 5 || what < 0 || what > 5) {
            return "arg";
        }
        int wrong = 0;
        for (int bead = 0; bead < row().length(); bead++) {
            wrong += row().charAt(bead) == 'a' + colour && isWrong(bead) ? 1 : 0;
        }
        int[] numbers = {stock(colour), bought[colour], letters(row(), colour), crushed[colour],
            letters(String.join("", chart), colour), wrong};
        return "" + numbers[what];
    }

    private static int sum(int[] numbers) {
        int total = 0;
        for (int number : numbers) {
            total += number;
        }
        return total;
    }

    String count(int what) {
        if (what < 0 || what > 12) {
            return "arg";
        }
        int open = 0;
        for (int string = 1; string < strings.size(); string++) {
            open += isHidden(string) ? 0 : 1;
        }
        int room = settings[2] - strings.get(strings.size() - 1).length();
        int[] numbers = {chart.size(), chart.get(0).length(), row().length(), strings.size(),
            differences(chart, settings[1]), open, sum(bought) - sum(crushed) - row().length(),
            sum(bought), sum(crushed), unpicked,
            (int) String.join("", chart).chars().distinct().count(), room < 0 ? 0 : room,
            saved.size()};
        return "" + numbers[what];
    }

    String setting(int setting) {
        return setting < 0 || setting > 3 ? "index" : "" + settings[setting];
    }

    // ---- what would be

    String needed(int colour, int total) {
        if (colour < 0 || colour > 5 || total < 1 || total > 240) {
            return "arg";
        }
        return "" + letters(patternText(chart, settings[1], total), colour);
    }

    /** From each place, from the last one on: the fewest strings for the beads from it on. */
    String plan(int total, int strand) {
        if (total < 1 || total > 240 || strand < -1 || strand > 47) {
            return "arg";
        }
        String pattern = patternText(chart, settings[1], total);
        int never = 1000;
        int[] fewest = new int[total];
        for (int place = total - 1; place >= 0; place--) {
            fewest[place] = total - place <= settings[2] ? 1 : never;
            for (int next = place + 1; next < total && next <= place + settings[2]; next++) {
                if (pattern.charAt(next) == 'a' + settings[3]) {
                    fewest[place] = Math.min(fewest[place], fewest[next] + 1);
                }
            }
        }
        if (fewest[0] >= never || strand >= fewest[0]) {
            return "-1";
        }
        if (strand == -1) {
            return "" + fewest[0];
        }
        int begin = 0;
        for (int string = 1; string <= strand; string++) {
            int latest = begin;
            for (int next = begin + 1; next < total && next <= begin + settings[2]; next++) {
                if (pattern.charAt(next) == 'a' + settings[3]
                        && fewest[next] == fewest[begin] - 1) {
                    latest = next;
                }
            }
            begin = latest;
        }
        return "" + begin;
    }

    String firstWrong() {
        for (int bead = 0; bead < row().length(); bead++) {
            if (isWrong(bead)) {
                return "" + bead;
            }
        }
        return "-1";
    }

    /** The longest beginning of the pattern whose letters stand in the row in this order. */
    String bestCrush() {
        String row = row();
        String pattern = patternText(chart, settings[1], 240);
        boolean[] can = new boolean[row.length() + 1];
        can[0] = true;
        for (char letter : row.toCharArray()) {
            for (int kept = row.length() - 1; kept >= 0; kept--) {
                can[kept + 1] |= can[kept] && pattern.charAt(kept) == letter;
            }
        }
        int most = row.length();
        while (!can[most]) {
            most--;
        }
        return "" + most;
    }

    String bestSlant() {
        int best = 0;
        for (int slant = 11; slant >= 0; slant--) {
            if (slant == 11 || differences(chart, slant) <= differences(chart, best)) {
                best = slant;
            }
        }
        return "" + best;
    }

    String bestTurn() {
        int best = -1;
        int fewest = differences(chart, settings[1]);
        for (int how = 0; how < 5; how++) {
            if (turned(how).size() <= 10 && differences(turned(how), settings[1]) < fewest) {
                fewest = differences(turned(how), settings[1]);
                best = how;
            }
        }
        return "" + best;
    }

    double wrongShare() {
        return row().isEmpty() ? 0.0 : (double) differences(chart, settings[1]) / row().length();
    }

    long digest() {
        List<String> values = new ArrayList<>();
        for (int what = 0; what < 13; what++) {
            values.add(count(what));
        }
        for (int value : settings) {
            values.add("" + value);
        }
        String.join("", chart).chars().forEach(cell -> values.add("" + (cell - 'a')));
        for (int colour = 0; colour < 6; colour++) {
            for (int what = 0; what < 6; what++) {
                values.add(colour(colour, what));
            }
            values.add(needed(colour, 60));
        }
        for (int bead = 0; bead < row().length(); bead++) {
            for (int what = 0; what < 4; what++) {
                values.add(bead(bead, what));
            }
        }
        for (int strand = 0; strand < strings.size(); strand++) {
            for (int what = 0; what < 4; what++) {
                values.add(strand(strand, what));
            }
        }
        for (int strand = -1; strand < 8; strand++) {
            values.add(plan(120, strand));
        }
        values.addAll(List.of(firstWrong(), bestCrush(), bestSlant(), bestTurn()));
        values.add("" + Double.doubleToLongBits(wrongShare()));
        values.add("" + buffer.length());
        buffer.chars().forEach(code -> values.add("" + code));
        long hash = 2351;
        for (String value : values) {
            hash = 31 * hash + Long.parseLong(value);
        }
        return hash;
    }
}
