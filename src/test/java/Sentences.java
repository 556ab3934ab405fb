import java.util.function.Supplier;
import java.util.function.ToIntFunction;

/** Answers that are due, each under the sentence of the document that asks for it. */
final class Sentences {
    private final String part;
    private String sentence = "";
    private int sentences = 0;
    private int answersOfSentence = 0;
    private int answers = 0;
    private int wrong = 0;

    Sentences(String part) {
        this.part = part;
    }

    /** From here on the answers belong to this sentence, told word for word, so that a search in the document finds it. */
    void says(String where, String words) {
        endSentence();
        sentence = where + ": \"" + words + "\"";
        sentences++;
        answersOfSentence = 0;
    }

    void due(String call, long got, long want) {
        due(call, Long.toString(got), Long.toString(want));
    }

    void due(String call, String got, String want) {
        answers++;
        answersOfSentence++;
        if (!got.equals(want)) {
            wrong++;
            System.out.println(sentence + ": " + call + " answered " + got + ", due is " + want);
        }
    }

    void dueRow(DeadRuns row, String want) {
        due("the row", Pads.told(row), want);
    }

    /** A call that has to return an error, and behind which everything has to be as on an object that never got the call. */
    void dueRefused(String call, Supplier<DeadRuns> made, ToIntFunction<DeadRuns> refused, int want) {
        due(call, refused.applyAsInt(made.get()), want);
        Supplier<DeadRuns> madeAndCalled = () -> {
            DeadRuns row = made.get();
            refused.applyAsInt(row);
            return row;
        };
        due("everything after " + call, everything(madeAndCalled), everything(made));
    }

    /** A call which is none that changes: the same as for one that is refused. */
    void dueUnchanged(String call, Supplier<DeadRuns> made, ToIntFunction<DeadRuns> called) {
        dueRefused(call, made, called, called.applyAsInt(made.get()));
    }

    /**
     * All that can be learnt of an object: what it is now, what each undo brings back, what is in its slots and on its pad.
     * Looking changes it, so each look is at an object made anew; none of them is called more than 512 times.
     */
    private static String everything(Supplier<DeadRuns> made) {
        StringBuilder told = new StringBuilder();
        for (int undone = 0; undone <= 6; undone++) {
            DeadRuns row = made.get();
            int answer = 0;
            for (int i = 0; i < undone; i++) {
                answer = row.undo();
            }
            told.append("undone ").append(answer).append(' ').append(state(row)).append('\n');
        }
        for (int slot = 0; slot < 2; slot++) {
            DeadRuns row = made.get();
            told.append("restored ").append(row.restore(slot)).append(' ').append(state(row)).append('\n');
        }
        DeadRuns row = made.get();
        told.append("loaded ").append(row.load()).append(' ').append(state(row)).append('\n');
        return told.toString();
    }

    private static String state(DeadRuns row) {
        StringBuilder told = new StringBuilder();
        for (int what = 0; what <= 10; what++) {
            told.append(row.count(what)).append(' ');
        }
        return told.append(row.fault()).append(' ').append(Pads.told(row)).toString();
    }

    private void endSentence() {
        if (sentences > 0 && answersOfSentence == 0) {
            wrong++;
            System.out.println(sentence + ": no answer was looked at");
        }
    }

    /** The last call of a test: tells the sum, and ends with exit code 1 if an answer was not as due. */
    void end() {
        endSentence();
        System.out.println(part + ": " + sentences + " sentences, " + answers + " answers, " + wrong + " not as due");
        if (wrong != 0 || sentences == 0) {
            System.exit(1);
        }
    }
}
