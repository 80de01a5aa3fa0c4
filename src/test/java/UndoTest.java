import java.util.ArrayList;
import java.util.List;
import java.util.function.Consumer;
import java.util.function.ToLongFunction;

/** The section HISTORY and promise 22: each test tells its sentence of the document. */
public final class UndoTest {
    private static final int BAD = -1;
    private static final int NONE = -9;

    private static final Due due = new Due("UndoTest");

    public static void main(String[] args) {
        nothingThereOneThere();
        eachActAddsOne();
        theOldestOneIsDropped();
        overAndOver();
        programmesComeBack();
        rightsComeBack();
        blackoutsComeBack();
        itemsComeBack();
        whatIsOwedComesBack();
        owedByAProgrammeThatIsNew();
        undoIsNoAct();
        onlyTheLatest();
        eachWeekHasItsOwn();
        due.end();
    }

    private static void nothingThereOneThere() {
        RadioWeek x = new RadioWeek();
        due.is("nothing", x.undo(), NONE);
        due.is("nothing again", x.undo(), NONE);
        x.addBlackout(0, 1, 0);
        due.is("one", x.undo(), 0);
        due.is("nothing", x.undo(), NONE);
        due.is("fingerprint() of an empty week", x.fingerprint(), 73L * 31 * 31 * 31 * 31);
    }

    /** Live of 30, a spot of 5 that is owed, a filler of 5; six acts or more before. */
    private static void week(RadioWeek x) {
        x.addProgramme(1, 30, 0);
        x.addProgramme(3, 5, 0);
        x.addProgramme(2, 5, 0);
        x.addRight(0, 0, 10080, 9);
        x.addRight(1, 0, 10080, 9);
        x.place(0, 100, false);
        x.place(1, 130, true);
        x.runOver(0, 5);
    }

    /** "Each call described as an act that returns no error adds the state before it." */
    private static void eachActAddsOne() {
        List<ToLongFunction<RadioWeek>> acts = new ArrayList<>();
        acts.add(x -> x.addProgramme(0, 1, 3));
        acts.add(x -> x.addRight(0, 0, 1, 1));
        acts.add(x -> x.addBlackout(0, 1, 3));
        acts.add(x -> x.place(2, 1000, true));
        acts.add(x -> x.place(2, 1000, false));
        acts.add(x -> x.remove(0));
        acts.add(x -> x.fill(2000, 2005));
        acts.add(x -> x.runOver(0, 1));
        acts.add(x -> x.makeGood(1, 0));
        for (int a = 0; a < acts.size(); a++) {
            for (int states = 0; states <= 5; states++) {
                RadioWeek x = withStates(states);
                long print = x.fingerprint();
                due.holds("act " + a + " is possible", acts.get(a).applyAsLong(x) >= 0);
                due.holds("act " + a + " changes something", x.fingerprint() != print);
                due.is("act " + a + " after " + states + ": undo()", x.undo(), Math.min(states, 4));
                due.is("act " + a + " after " + states + ": fingerprint()", x.fingerprint(), print);
            }
        }
    }

    /** The same week with so many states in its history. */
    private static RadioWeek withStates(int states) {
        RadioWeek x = Refusals.made(UndoTest::week);
        for (int i = 0; i < 5; i++) {
            x.addBlackout(1439, 1440, 3);
        }
        for (int i = 5; i > states; i--) {
            due.is("undo()", x.undo(), i - 1);
        }
        return x;
    }

    /** "A history of at most 5 states is kept; if there are 5 already, the oldest one is dropped." */
    private static void theOldestOneIsDropped() {
        for (int acts = 1; acts <= 12; acts++) {
            RadioWeek x = new RadioWeek();
            long[] prints = new long[acts + 1];
            prints[0] = x.fingerprint();
            for (int a = 1; a <= acts; a++) {
                due.is("act " + a, x.addBlackout(a % 10, a % 10 + 1, 0), a <= 10 ? a - 1 : -3);
                prints[a] = x.fingerprint();
            }
            int made = Math.min(acts, 10);
            int states = Math.min(made, 5);
            for (int back = 1; back <= states; back++) {
                due.is(acts + " acts, undo() " + back, x.undo(), states - back);
                due.is(acts + " acts, state " + (made - back), x.fingerprint(), prints[made - back]);
            }
            due.is(acts + " acts, no more", x.undo(), NONE);
            due.is(acts + " acts, the state stays", x.fingerprint(), prints[made - states]);
        }
    }

    /** Some acts and some undos by turns, with a list of the states that are due. */
    private static void overAndOver() {
        for (int acts = 1; acts <= 7; acts++) {
            for (int undos = 1; undos <= 6; undos++) {
                RadioWeek x = new RadioWeek();
                List<Long> states = new ArrayList<>();
                for (int round = 0; round < 8; round++) {
                    for (int a = 0; a < acts; a++) {
                        states.add(x.fingerprint());
                        due.holds("an act is possible", anAct(x) >= 0);
                    }
                    while (states.size() > 5) {
                        states.remove(0);
                    }
                    for (int u = 0; u < undos; u++) {
                        undoIs(x, states);
                    }
                }
            }
        }
    }

    private static int anAct(RadioWeek x) {
        return x.owed(0) == BAD ? x.addProgramme(2, 1, 0) : x.place(0, 10 * x.items(), false);
    }

    private static void undoIs(RadioWeek x, List<Long> states) {
        int last = states.size() - 1;
        long print = last < 0 ? x.fingerprint() : states.remove(last);
        due.is("undo()", x.undo(), last < 0 ? NONE : last);
        due.is("fingerprint()", x.fingerprint(), print);
    }

    /** "undo() removes the latest one and restores it": programmes. */
    private static void programmesComeBack() {
        RadioWeek x = new RadioWeek();
        x.addProgramme(2, 10, 0);
        x.addProgramme(2, 20, 3);
        due.is("undo()", x.undo(), 1);
        due.is("no second programme", x.mayPlace(1, 0), BAD);
        due.is("another one", x.addProgramme(0, 30, 1), 1);
        due.is("it needs a right", x.mayPlace(1, 0), -5);
        due.is("undo()", x.undo(), 1);
        due.is("a third one", x.addProgramme(2, 40, 2), 1);
        due.is("with its own length", x.mayPlace(1, 10040), 0);
        due.is("with its own length", x.mayPlace(1, 10041), -4);
        x.addBlackout(0, 1440, 3);
        due.is("with its own rating", x.mayPlace(1, 0), 0);
        x.undo();
        x.addBlackout(0, 1440, 2);
        due.is("with its own rating", x.mayPlace(1, 0), -6);
        due.is("the first one is as before", x.mayPlace(0, 10070), 0);
    }

    private static void rightsComeBack() {
        RadioWeek x = new RadioWeek();
        x.addProgramme(0, 10, 0);
        x.addProgramme(0, 10, 0);
        x.addRight(0, 0, 10, 1);
        x.addRight(0, 100, 200, 9);
        due.is("undo()", x.undo(), 3);
        due.is("no second right", x.left(1), BAD);
        due.is("no second right", x.mayPlace(0, 100), -5);
        due.is("another one", x.addRight(1, 300, 310, 2), 1);
        due.is("its plays", x.left(1), 2);
        due.is("not for the first programme", x.mayPlace(0, 300), -5);
        due.is("for the second", x.mayPlace(1, 300), 0);
        due.is("not in the old window", x.mayPlace(1, 100), -5);
        due.is("the first right", x.mayPlace(0, 0), 0);
        due.is("the first right's plays", x.left(0), 1);
    }

    private static void blackoutsComeBack() {
        RadioWeek x = new RadioWeek();
        x.addProgramme(2, 10, 1);
        x.place(0, 100, false);
        x.addBlackout(0, 50, 0);
        x.addBlackout(100, 200, 0);
        due.is("broken()", x.broken(), 1);
        due.is("undo()", x.undo(), 3);
        due.is("broken()", x.broken(), 0);
        due.is("no second blackout", x.mayPlace(0, 150), 0);
        due.is("the first blackout", x.mayPlace(0, 40), -6);
        due.is("another one", x.addBlackout(300, 400, 2), 1);
        due.is("for a higher rating", x.mayPlace(0, 300), 0);
        due.is("undo()", x.undo(), 3);
        due.is("a third one", x.addBlackout(300, 301, 1), 1);
        due.is("for this rating", x.mayPlace(0, 300), -6);
        due.is("not longer", x.mayPlace(0, 301), 0);
    }

    /** Items come back with their starts, lengths and whether they are fixed. */
    private static void itemsComeBack() {
        RadioWeek x = Refusals.made(UndoTest::week);
        x.place(2, 135, true);
        x.place(1, 140, false);
        x.place(1, 145, true);
        x.place(2, 200, false);
        int[][] want = {{0, 100, 35, 0, 0}, {2, 135, 5, 1, NONE}, {1, 140, 5, 0, 1}, {1, 145, 5, 1, 1}, {2, 200, 5, 0, NONE}};
        due.is("three are dropped or cut", x.runOver(0, 12), 2);
        due.is("all is removed", x.remove(0) * 100 + x.remove(0), 201);
        for (int i = 0; i < 3; i++) {
            due.is("undo()", x.undo(), 4 - i);
        }
        due.is("items()", x.items(), want.length);
        for (int i = 0; i < want.length; i++) {
            for (int what = 0; what <= 4; what++) {
                due.is("item(" + i + ", " + what + ")", x.item(i, what), want[i][what]);
            }
        }
        due.is("undo()", x.undo(), 1);
        due.is("items()", x.items(), 4);
        due.is("the last one", x.item(3, 1), 145);
    }

    private static void whatIsOwedComesBack() {
        RadioWeek x = Refusals.made(UndoTest::week);
        due.is("owed(1)", x.owed(1), 1);
        x.place(1, 135, true);
        x.runOver(0, 5);
        due.is("owed(1)", x.owed(1), 2);
        x.makeGood(1, 300);
        due.is("owed(1)", x.owed(1), 1);
        int[] back = {2, 1, 1, 0, 0};
        for (int i = 0; i < 5; i++) {
            due.is("undo()", x.undo(), 4 - i);
            due.is("owed(1), " + (i + 1) + " back", x.owed(1), back[i]);
        }
        due.is("the live item alone", x.items(), 1);
    }

    /** A programme that comes in the place of one that was undone is owed nothing. */
    private static void owedByAProgrammeThatIsNew() {
        RadioWeek x = new RadioWeek();
        x.addProgramme(1, 30, 0);
        x.addRight(0, 0, 10080, 9);
        x.place(0, 100, false);
        x.addProgramme(3, 5, 0);
        x.addRight(1, 0, 10080, 9);
        x.place(1, 130, true);
        x.runOver(0, 5);
        due.is("owed(1)", x.owed(1), 1);
        for (int i = 0; i < 4; i++) {
            x.undo();
        }
        due.is("the spot is not there", x.owed(1), BAD);
        due.is("another spot", x.addProgramme(3, 5, 0), 1);
        due.is("owed(1)", x.owed(1), 0);
        due.is("makeGood(1, 0)", x.makeGood(1, 0), -2);
    }

    /** undo() adds no state; what it took is gone. */
    private static void undoIsNoAct() {
        RadioWeek x = new RadioWeek();
        x.addProgramme(2, 5, 0);
        x.place(0, 100, false);
        due.is("undo()", x.undo(), 1);
        due.is("undo()", x.undo(), 0);
        due.is("undo()", x.undo(), NONE);
        due.is("the programme does not come back", x.owed(0), BAD);
    }

    private static void onlyTheLatest() {
        RadioWeek x = new RadioWeek();
        x.addProgramme(2, 5, 0);
        x.place(0, 100, false);
        x.place(0, 200, false);
        x.undo();
        x.place(0, 300, false);
        due.is("the first item", x.item(0, 1), 100);
        due.is("the new one", x.item(1, 1), 300);
        due.is("undo()", x.undo(), 2);
        due.is("undo() of the first", x.undo(), 1);
        due.is("items()", x.items(), 0);
    }

    /** Two objects have nothing in common. */
    private static void eachWeekHasItsOwn() {
        Consumer<RadioWeek> making = UndoTest::week;
        RadioWeek x = Refusals.made(making);
        RadioWeek y = Refusals.made(making);
        long print = y.fingerprint();
        x.remove(0);
        x.addBlackout(0, 1440, 0);
        x.addProgramme(2, 1, 1);
        due.is("the other one", y.fingerprint(), print);
        due.is("the other one's blackouts", y.mayPlace(2, 0), 0);
        x.undo();
        x.undo();
        x.undo();
        due.is("the same again", x.fingerprint(), print);
        due.is("two states are left", x.undo(), 1);
        due.is("five states are left", y.undo(), 4);
    }
}
