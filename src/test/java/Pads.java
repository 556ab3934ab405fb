/** Texts as the numbers that put takes. */
final class Pads {
    /** Above what a row can tell, so that a row which never ends its text fails a test and does not hold it up. */
    private static final int MOST_TOLD = 2000;

    private Pads() {
    }

    static long packed(String text) {
        long number = 0;
        for (int i = 0; i < text.length(); i++) {
            number = number << 8 | text.charAt(i);
        }
        return number;
    }

    static void putAll(DeadRuns row, String text) {
        for (int i = 0; i < text.length(); i += 8) {
            row.put(packed(text.substring(i, Math.min(text.length(), i + 8))));
        }
    }

    static DeadRuns loaded(String text) {
        DeadRuns row = new DeadRuns();
        putAll(row, text);
        row.load();
        return row;
    }

    /** A row of runs of one sign each, by turns a 1 and a 2, in few calls. */
    static DeadRuns onesAndTwos(int runs) {
        int loaded = Math.min(runs, 40);
        StringBuilder text = new StringBuilder();
        for (int i = 0; i < loaded; i++) {
            text.append(i == 0 ? "" : ";").append(1 + i % 2);
        }
        DeadRuns row = loaded(text.toString());
        for (int i = loaded; i < runs; i++) {
            row.insert(i, 1 + i % 2, 1);
        }
        return row;
    }

    static String told(DeadRuns row) {
        StringBuilder text = new StringBuilder();
        int character = row.character(0);
        while (character != DeadRuns.NO_SUCH && text.length() < MOST_TOLD) {
            text.append((char) character);
            character = row.character(text.length());
        }
        return text.toString();
    }

    static String bits(DeadRuns row) {
        StringBuilder bits = new StringBuilder();
        int bit = row.bit(0);
        while (bit != DeadRuns.NO_SUCH && bits.length() < MOST_TOLD) {
            bits.append(bit);
            bit = row.bit(bits.length());
        }
        return bits.toString();
    }
}
