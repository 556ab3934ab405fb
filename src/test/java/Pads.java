/** Texts as the numbers that put takes. */
final class Pads {
    private Pads() {
    }

    static long packed(String text) {
        long number = 0;
        for (int i = 0; i < text.length(); i++) {
            number = number << 8 | text.charAt(i);
        }
        return number;
    }

    static void putAll(DeadRuns row, String text) {
        for (int i = 0; i < text.length(); i += 8) {
            row.put(packed(text.substring(i, Math.min(text.length(), i + 8))));
        }
    }

    static DeadRuns loaded(String text) {
        DeadRuns row = new DeadRuns();
        putAll(row, text);
        row.load();
        return row;
    }

    static String told(DeadRuns row) {
        StringBuilder text = new StringBuilder();
        for (int at = 0; row.character(at) != DeadRuns.NO_SUCH; at++) {
            text.append((char) row.character(at));
        }
        return text.toString();
    }

    static String bits(DeadRuns row) {
        StringBuilder bits = new StringBuilder();
        for (int at = 0; row.bit(at) != DeadRuns.NO_SUCH; at++) {
            bits.append(row.bit(at));
        }
        return bits.toString();
    }
}
