import java.util.ArrayList;
import java.util.Collections;
import java.util.List;
import java.util.regex.Matcher;
import java.util.regex.Pattern;

/**
 * The document once more, sign by sign, with texts of bits and patterns of texts.
 * It shares no way of thinking with DeadRuns, so that a slip there is not made here, too.
 */
final class PlainModel {
    static final int NO_SUCH = -1, BAD_VALUE = -2, BAD_TEXT = -3, TOO_MANY = -4, NOT_POSSIBLE = -5, NONE = -6;
    static final int DEAD = 10;
    private static final Pattern ROW = rowPattern();

    private record Kept(List<Integer> row, int code, int saveDead) {
    }

    private record Run(int sign, int first, int length) {
    }

    private List<Integer> row = new ArrayList<>();
    private int code = 0;
    private int saveDead = 1;
    private String pad = "";
    private final ArrayList<Kept> history = new ArrayList<>();
    private final Kept[] slots = new Kept[2];

    private static Pattern rowPattern() {
        String number = "([1-9][0-9]{0,2}|[12][0-9]{3}|3000)";
        String run = "[0-9x](\\*" + number + ")?";
        return Pattern.compile(run + "(;" + run + ")*");
    }

    private static List<Run> runsOf(List<Integer> signs) {
        List<Run> runs = new ArrayList<>();
        int first = 0;
        for (int i = 1; i <= signs.size(); i++) {
            if (i == signs.size() || !signs.get(i).equals(signs.get(first))) {
                runs.add(new Run(signs.get(first), first, i - first));
                first = i;
            }
        }
        return runs;
    }

    private boolean noPiece(int first, int many) {
        return first < 0 || many < 1 || (long) first + many > row.size();
    }

    private static boolean out(int number, int least, int most) {
        return number < least || number > most;
    }

    private void record() {
        history.add(new Kept(row, code, saveDead));
        if (history.size() > 6) {
            history.remove(0);
        }
    }

    private boolean take(List<Integer> signs) {
        if (signs.size() > 3000 || runsOf(signs).size() > 50) {
            return false;
        }
        record();
        row = signs;
        return true;
    }

    int set(int setting, int value) {
        if (setting == 0 && !out(value, 0, 2)) {
            record();
            int before = code;
            code = value;
            return before;
        }
        if (setting == 1 && !out(value, 0, 1)) {
            record();
            int before = saveDead;
            saveDead = value;
            return before;
        }
        return BAD_VALUE;
    }

    int insert(int at, int sign, int many) {
        if (out(at, 0, row.size())) {
            return NO_SUCH;
        }
        if (out(sign, 0, 10) || out(many, 1, 3000)) {
            return BAD_VALUE;
        }
        List<Integer> signs = new ArrayList<>(row);
        signs.addAll(at, Collections.nCopies(many, sign));
        return take(signs) ? row.size() : TOO_MANY;
    }

    int erase(int first, int many) {
        if (noPiece(first, many)) {
            return NO_SUCH;
        }
        List<Integer> signs = new ArrayList<>(row);
        List<Integer> piece = signs.subList(first, first + many);
        if (saveDead == 1 && piece.contains(DEAD)) {
            return NOT_POSSIBLE;
        }
        piece.clear();
        return take(signs) ? row.size() : TOO_MANY;
    }

    int write(int first, int many, int value) {
        if (noPiece(first, many)) {
            return NO_SUCH;
        }
        if (out(value, 0, 9)) {
            return BAD_VALUE;
        }
        List<Integer> signs = new ArrayList<>(row);
        int other = 0;
        for (int i = first; i < first + many; i++) {
            if (signs.get(i) < 10) {
                other += signs.get(i) == value ? 0 : 1;
                signs.set(i, value);
            }
        }
        return take(signs) ? other : TOO_MANY;
    }

    int add(int first, int many, int more) {
        if (noPiece(first, many)) {
            return NO_SUCH;
        }
        if (out(more, 1, 9)) {
            return BAD_VALUE;
        }
        List<Integer> signs = new ArrayList<>(row);
        int live = 0;
        for (int i = first; i < first + many; i++) {
            if (signs.get(i) < 10) {
                live++;
                signs.set(i, (signs.get(i) + more) % 10);
            }
        }
        return take(signs) ? live : TOO_MANY;
    }

    int kill(int first, int many) {
        if (noPiece(first, many)) {
            return NO_SUCH;
        }
        List<Integer> signs = new ArrayList<>(row);
        int dead = Collections.frequency(signs.subList(first, first + many), DEAD);
        Collections.fill(signs.subList(first, first + many), DEAD);
        return take(signs) ? many - dead : TOO_MANY;
    }

    int revive(int first, int many) {
        if (noPiece(first, many)) {
            return NO_SUCH;
        }
        List<Integer> signs = new ArrayList<>(row);
        int dead = Collections.frequency(signs.subList(first, first + many), DEAD);
        Collections.replaceAll(signs.subList(first, first + many), DEAD, 0);
        return take(signs) ? dead : TOO_MANY;
    }

    int turn(int first, int many) {
        if (noPiece(first, many)) {
            return NO_SUCH;
        }
        List<Integer> signs = new ArrayList<>(row);
        List<Integer> piece = signs.subList(first, first + many);
        if (saveDead == 0) {
            Collections.reverse(piece);
        } else {
            int low = 0;
            int high = many - 1;
            while (low < high) {
                if (piece.get(low) == DEAD) {
                    low++;
                } else if (piece.get(high) == DEAD) {
                    high--;
                } else {
                    Collections.swap(piece, low++, high--);
                }
            }
        }
        return take(signs) ? runsOf(row).size() : TOO_MANY;
    }

    int move(int first, int many, int to) {
        if (noPiece(first, many)) {
            return NO_SUCH;
        }
        if (out(to, 0, row.size() - many)) {
            return BAD_VALUE;
        }
        List<Integer> signs = new ArrayList<>(row);
        List<Integer> piece = new ArrayList<>(signs.subList(first, first + many));
        signs.subList(first, first + many).clear();
        signs.addAll(to, piece);
        return take(signs) ? runsOf(row).size() : TOO_MANY;
    }

    int sign(int at) {
        return out(at, 0, row.size() - 1) ? NO_SUCH : row.get(at);
    }

    int ofRun(int run, int what) {
        List<Run> runs = runsOf(row);
        if (out(run, 0, runs.size() - 1)) {
            return NO_SUCH;
        }
        Run it = runs.get(run);
        return switch (what) {
            case 0 -> it.sign();
            case 1 -> it.first();
            case 2 -> it.length();
            case 3 -> bits(List.of(it), code).length();
            default -> BAD_VALUE;
        };
    }

    int count(int what) {
        return switch (what) {
            case 0 -> row.size();
            case 1 -> runsOf(row).size();
            case 2 -> Collections.frequency(row, DEAD);
            case 3 -> bits(runsOf(row), code).length();
            case 4 -> text().length();
            case 5 -> row.stream().filter(sign -> sign < 10).mapToInt(Integer::intValue).sum();
            case 6 -> runsOf(row).stream().mapToInt(Run::length).max().orElse(0);
            case 7 -> pad.length();
            case 8 -> history.size();
            case 9 -> code;
            case 10 -> saveDead;
            default -> BAD_VALUE;
        };
    }

    int howMany(int first, int many, int sign) {
        if (noPiece(first, many)) {
            return NO_SUCH;
        }
        return out(sign, 0, 10) ? BAD_VALUE : Collections.frequency(row.subList(first, first + many), sign);
    }

    private static String binary(int number, int width) {
        return "0".repeat(width - Integer.toBinaryString(number).length()) + Integer.toBinaryString(number);
    }

    private static String bits(List<Run> runs, int code) {
        StringBuilder bits = new StringBuilder();
        for (Run run : runs) {
            bits.append(run.sign() == DEAD ? "1" : "0" + binary(run.sign(), 4));
            String n = Integer.toBinaryString(run.length());
            String k = Integer.toBinaryString(n.length());
            switch (code) {
                case 0 -> bits.append(binary(run.length(), 12));
                case 1 -> bits.append("0".repeat(n.length() - 1)).append(n);
                default -> bits.append("0".repeat(k.length() - 1)).append(k).append(n.substring(1));
            }
        }
        return bits.toString();
    }

    int bit(int at) {
        String bits = bits(runsOf(row), code);
        return out(at, 0, bits.length() - 1) ? NO_SUCH : bits.charAt(at) - '0';
    }

    private String text() {
        List<String> parts = new ArrayList<>();
        for (Run run : runsOf(row)) {
            String sign = run.sign() == DEAD ? "x" : Integer.toString(run.sign());
            parts.add(run.length() == 1 ? sign : sign + "*" + run.length());
        }
        return String.join(";", parts);
    }

    int character(int at) {
        String text = text();
        return out(at, 0, text.length() - 1) ? NO_SUCH : text.charAt(at);
    }

    int size(int which) {
        return out(which, 0, 2) ? BAD_VALUE : bits(runsOf(row), which).length();
    }

    int bestCode() {
        int least = Math.min(size(0), Math.min(size(1), size(2)));
        return size(0) == least ? 0 : size(1) == least ? 1 : 2;
    }

    int longestLive(int what) {
        if (out(what, 0, 1)) {
            return BAD_VALUE;
        }
        int best = 0;
        int bestFirst = NONE;
        int live = 0;
        for (int i = 0; i < row.size(); i++) {
            live = row.get(i) == DEAD ? 0 : live + 1;
            if (live > best) {
                best = live;
                bestFirst = i - live + 1;
            }
        }
        return best == 0 ? NONE : what == 0 ? bestFirst : best;
    }

    int find(int from, int pattern) {
        if (from < 0 || out(pattern, 1, 999999999)) {
            return BAD_VALUE;
        }
        StringBuilder signs = new StringBuilder();
        for (int sign : row) {
            signs.append(sign == DEAD ? "x" : Integer.toString(sign));
        }
        int place = from > row.size() ? -1 : signs.indexOf(Integer.toString(pattern), from);
        return place < 0 ? NONE : place;
    }

    int bestWrite(int what) {
        if (out(what, 0, 2)) {
            return BAD_VALUE;
        }
        int[] best = {NONE, NONE, NONE};
        List<Run> runs = runsOf(row);
        for (int i = 0; i < runs.size(); i++) {
            Run run = runs.get(i);
            for (int value = 0; value < 10 && run.sign() != DEAD; value++) {
                List<Integer> signs = new ArrayList<>(row);
                Collections.fill(signs.subList(run.first(), run.first() + run.length()), value);
                int saved = bits(runs, code).length() - bits(runsOf(signs), code).length();
                if (saved > Math.max(0, best[2])) {
                    best = new int[] {i, value, saved};
                }
            }
        }
        return best[what];
    }

    int unlikeMirror() {
        List<Integer> turned = new ArrayList<>(row);
        Collections.reverse(turned);
        int unlike = 0;
        for (int i = 0; i < row.size(); i++) {
            unlike += row.get(i).equals(turned.get(i)) ? 0 : 1;
        }
        return unlike;
    }

    int put(long characters) {
        StringBuilder text = new StringBuilder();
        boolean ended = false;
        for (int i = 0; i < 8; i++) {
            int character = (int) (characters >>> (8 * i)) & 255;
            if (character == 0) {
                ended = true;
            } else if (ended || out(character, 33, 126)) {
                return BAD_VALUE;
            } else {
                text.insert(0, (char) character);
            }
        }
        if (text.length() == 0) {
            return BAD_VALUE;
        }
        if (pad.length() + text.length() > 80) {
            return TOO_MANY;
        }
        pad += text;
        return pad.length();
    }

    int wipe() {
        int before = pad.length();
        pad = "";
        return before;
    }

    int fault() {
        for (int i = 0; i < pad.length(); i++) {
            Matcher matcher = ROW.matcher(pad.substring(0, i + 1));
            if (!matcher.matches() && !matcher.hitEnd()) {
                return i;
            }
        }
        return ROW.matcher(pad).matches() ? NONE : pad.length();
    }

    int load() {
        if (fault() != NONE) {
            return BAD_TEXT;
        }
        List<Integer> signs = new ArrayList<>();
        for (String run : pad.split(";")) {
            int many = run.length() == 1 ? 1 : Integer.parseInt(run.substring(2));
            signs.addAll(Collections.nCopies(many, run.charAt(0) == 'x' ? DEAD : run.charAt(0) - '0'));
        }
        if (!take(signs)) {
            return TOO_MANY;
        }
        pad = "";
        return runsOf(row).size();
    }

    private void become(Kept kept) {
        row = kept.row();
        code = kept.code();
        saveDead = kept.saveDead();
    }

    int undo() {
        if (history.isEmpty()) {
            return NOT_POSSIBLE;
        }
        become(history.remove(history.size() - 1));
        return history.size();
    }

    int save(int slot) {
        if (out(slot, 0, 1)) {
            return BAD_VALUE;
        }
        slots[slot] = new Kept(row, code, saveDead);
        return row.size();
    }

    int restore(int slot) {
        if (out(slot, 0, 1)) {
            return BAD_VALUE;
        }
        if (slots[slot] == null) {
            return NOT_POSSIBLE;
        }
        record();
        become(slots[slot]);
        return row.size();
    }
}
