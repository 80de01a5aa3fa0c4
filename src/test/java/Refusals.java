import java.util.function.Consumer;
import java.util.function.ToLongFunction;

/**
 * Refused calls: each is made on one of two weeks that were made the same way, and afterwards both must be
 * the same, and so must all the states of their histories.
 */
final class Refusals {
    private static final int NONE = -9;
    private static final int[] TIMES = {0, 1, 95, 100, 105, 599, 600, 700, 1439, 1440, 2000, 5000, 9000, 10070, 10078, 10079};

    private final Due due;

    Refusals(Due due) {
        this.due = due;
    }

    /** The call answers the error and changes nothing, neither the week nor its history. */
    void is(String call, Consumer<RadioWeek> making, ToLongFunction<RadioWeek> refused, long error) {
        RadioWeek asked = made(making);
        due.is(call, refused.applyAsLong(asked), error);
        same(call, asked, made(making));
    }

    static RadioWeek made(Consumer<RadioWeek> making) {
        RadioWeek x = new RadioWeek();
        making.accept(x);
        return x;
    }

    private void same(String call, RadioWeek got, RadioWeek want) {
        boolean more = true;
        for (int back = 0; back <= 6 && more; back++) {
            sameAnswers("after " + call + ", " + back + " acts back: ", got, want);
            int states = want.undo();
            due.is("after " + call + ", " + back + " acts back: undo()", got.undo(), states);
            more = states != NONE;
        }
        due.holds("a history ends after " + call, !more);
    }

    /** Few enough questions that a week with its history stays below 512 calls. */
    private void sameAnswers(String when, RadioWeek got, RadioWeek want) {
        due.is(when + "fingerprint()", got.fingerprint(), want.fingerprint());
        due.is(when + "broken()", got.broken(), want.broken());
        due.is(when + "silence(0, 10080)", got.silence(0, 10080), want.silence(0, 10080));
        for (int kind = 0; kind <= 4; kind++) {
            due.is(when + "minutes(" + kind + ", 0, 10080)", got.minutes(kind, 0, 10080), want.minutes(kind, 0, 10080));
        }
        for (int i = 0; i <= 15; i++) {
            due.is(when + "ranked(" + i + ")", got.ranked(i), want.ranked(i));
            due.is(when + "mayPlace(" + i + ", " + TIMES[i] + ")", got.mayPlace(i, TIMES[i]), want.mayPlace(i, TIMES[i]));
            due.is(when + "mayPlace(0, " + TIMES[i] + ")", got.mayPlace(0, TIMES[i]), want.mayPlace(0, TIMES[i]));
        }
    }
}
