import java.util.function.Consumer;
import java.util.function.ToLongFunction;

/**
 * "A call that returns an error changes nothing. If several errors apply to a call, the one listed first is
 * returned." For each method each of its errors alone, and each two of them together.
 */
public final class ErrorsTest {
    private static final int BAD = -1;
    private static final int STATE = -2;
    private static final int FULL = -3;
    private static final int CLASH = -4;
    private static final int RIGHT = -5;
    private static final int DARK = -6;
    private static final int NONE = -9;

    private static final Due due = new Due("ErrorsTest");
    private static final Refusals refused = new Refusals(due);

    public static void main(String[] args) {
        promise2AddProgramme();
        promise3AddRight();
        promise4AddBlackout();
        promise5And15PlacingAlone();
        promise5And15PlacingTogether();
        promise6Remove();
        promise7Earliest();
        promise8FillAlone();
        promise8FillTogether();
        promise9RunOver();
        promise10MakeGoodAlone();
        promise10MakeGoodTogether();
        asking();
        promise22Undo();
        due.end();
    }

    private static void is(String call, Consumer<RadioWeek> making, ToLongFunction<RadioWeek> asked, long error) {
        refused.is(call, making, asked, error);
    }

    /** All that fits: 16 programmes, 30 rights, 10 blackouts (for rating 3 alone) and 60 items. */
    private static void allThatFits(RadioWeek x) {
        x.addProgramme(0, 10, 0);
        x.addProgramme(1, 20, 0);
        x.addProgramme(3, 5, 0);
        for (int p = 3; p < 16; p++) {
            x.addProgramme(2, p, 3);
        }
        for (int r = 0; r < 30; r++) {
            x.addRight(r % 3, 0, 10080, 50);
        }
        for (int b = 0; b < 10; b++) {
            x.addBlackout(600 + b, 601 + b, 3);
        }
        for (int i = 0; i < 60; i++) {
            x.place(i % 3, 1000 + 100 * i, i % 5 == 0);
        }
    }

    private static void promise2AddProgramme() {
        is("a seventeenth programme", ErrorsTest::allThatFits, x -> x.addProgramme(0, 1, 0), FULL);
        is("a seventeenth programme of a wrong kind", ErrorsTest::allThatFits, x -> x.addProgramme(4, 1, 0), BAD);
        is("a seventeenth programme of a wrong length", ErrorsTest::allThatFits, x -> x.addProgramme(0, 241, 0), BAD);
        is("a seventeenth programme of a wrong rating", ErrorsTest::allThatFits, x -> x.addProgramme(0, 1, -1), BAD);
    }

    private static void promise3AddRight() {
        is("a right too many", ErrorsTest::allThatFits, x -> x.addRight(0, 0, 10080, 50), FULL);
        is("a right too many of a wrong programme", ErrorsTest::allThatFits, x -> x.addRight(16, 0, 10080, 50), BAD);
        is("a right too many from a wrong time", ErrorsTest::allThatFits, x -> x.addRight(0, -1, 10080, 50), BAD);
        is("a right too many to a wrong time", ErrorsTest::allThatFits, x -> x.addRight(0, 9, 9, 50), BAD);
        is("a right too many of wrong plays", ErrorsTest::allThatFits, x -> x.addRight(0, 0, 10080, 51), BAD);
    }

    private static void promise4AddBlackout() {
        is("an eleventh blackout", ErrorsTest::allThatFits, x -> x.addBlackout(0, 1440, 0), FULL);
        is("an eleventh blackout from a wrong time", ErrorsTest::allThatFits, x -> x.addBlackout(-1, 5, 0), BAD);
        is("an eleventh blackout to a wrong time", ErrorsTest::allThatFits, x -> x.addBlackout(5, 5, 0), BAD);
        is("an eleventh blackout of a wrong rating", ErrorsTest::allThatFits, x -> x.addBlackout(0, 5, 4), BAD);
    }

    private static void placing(String why, Consumer<RadioWeek> making, int programme, int start, long error) {
        is("place(), not fixed: " + why, making, x -> x.place(programme, start, false), error);
        is("place(), fixed: " + why, making, x -> x.place(programme, start, true), error);
        is("mayPlace(): " + why, making, x -> x.mayPlace(programme, start), error);
    }

    /** Item 0 is at 100 to 110, to end at 115; [600, 700) is dark; programme 0 has a right for 0 to 2000. */
    private static void someItems(RadioWeek x) {
        x.addProgramme(0, 10, 1);
        x.addProgramme(2, 5, 1);
        x.addProgramme(0, 10, 0);
        x.addRight(0, 0, 2000, 3);
        x.addBlackout(600, 700, 1);
        x.place(0, 100, true);
        x.place(1, 110, false);
    }

    /** The same with 58 more items at 5050, 5060, ..., 5620. */
    private static void sixtyItems(RadioWeek x) {
        someItems(x);
        for (int i = 0; i < 58; i++) {
            x.place(1, 5050 + 10 * i, false);
        }
    }

    private static void promise5And15PlacingAlone() {
        due.is("it is possible", Refusals.made(ErrorsTest::someItems).mayPlace(0, 300), 0);
        due.is("there are sixty items", Refusals.made(ErrorsTest::sixtyItems).items(), 60);
        placing("FULL alone", ErrorsTest::sixtyItems, 0, 300, FULL);
        placing("CLASH with an item alone", ErrorsTest::someItems, 0, 105, CLASH);
        placing("CLASH with the week's end alone", ErrorsTest::someItems, 1, 10076, CLASH);
        placing("RIGHT alone", ErrorsTest::someItems, 2, 300, RIGHT);
        placing("DARK alone", ErrorsTest::someItems, 0, 650, DARK);
    }

    private static void promise5And15PlacingTogether() {
        placing("BAD and FULL", ErrorsTest::sixtyItems, 3, 300, BAD);
        placing("BAD and FULL", ErrorsTest::sixtyItems, 0, -1, BAD);
        placing("BAD and CLASH with the week's end", ErrorsTest::someItems, 0, 10080, BAD);
        placing("BAD and CLASH with an item", ErrorsTest::someItems, 3, 105, BAD);
        placing("FULL and CLASH with an item", ErrorsTest::sixtyItems, 0, 105, FULL);
        placing("FULL and CLASH with the week's end", ErrorsTest::sixtyItems, 1, 10076, FULL);
        placing("FULL and RIGHT", ErrorsTest::sixtyItems, 2, 300, FULL);
        placing("FULL and DARK", ErrorsTest::sixtyItems, 0, 650, FULL);
        placing("CLASH with an item and RIGHT", ErrorsTest::someItems, 2, 105, CLASH);
        placing("CLASH with the week's end and RIGHT", ErrorsTest::someItems, 2, 10075, CLASH);
        Consumer<RadioWeek> darkItem = x -> {
            someItems(x);
            x.addBlackout(100, 120, 0);
            x.addBlackout(1430, 1440, 0);
        };
        placing("CLASH with an item and DARK", darkItem, 0, 105, CLASH);
        placing("CLASH with the week's end and DARK", darkItem, 1, 10079, CLASH);
        placing("RIGHT and DARK", ErrorsTest::someItems, 0, 2090, RIGHT);
        placing("CLASH, RIGHT and DARK", darkItem, 2, 105, CLASH);
    }

    private static void promise6Remove() {
        is("remove() without items", x -> x.addProgramme(2, 5, 0), x -> x.remove(0), BAD);
        is("remove() of no item", ErrorsTest::someItems, x -> x.remove(2), BAD);
        is("remove() of no item", ErrorsTest::sixtyItems, x -> x.remove(60), BAD);
    }

    private static void promise7Earliest() {
        is("earliest() where all is dark", x -> {
            someItems(x);
            x.addBlackout(0, 1440, 0);
        }, x -> x.earliest(1, 0), NONE);
        is("earliest() out of the rights", ErrorsTest::someItems, x -> x.earliest(0, 1991), NONE);
        is("earliest() with sixty items", ErrorsTest::sixtyItems, x -> x.earliest(1, 0), NONE);
        is("earliest() at the week's end", ErrorsTest::someItems, x -> x.earliest(1, 10076), NONE);
        is("BAD and NONE", ErrorsTest::sixtyItems, x -> x.earliest(3, 0), BAD);
        is("BAD and NONE", ErrorsTest::sixtyItems, x -> x.earliest(1, 10080), BAD);
    }

    private static void promise8FillAlone() {
        is("CLASH alone", ErrorsTest::someItems, x -> x.fill(105, 115), CLASH);
        is("CLASH alone, at its end", ErrorsTest::someItems, x -> x.fill(96, 101), CLASH);
        is("CLASH alone, at its beginning", ErrorsTest::someItems, x -> x.fill(114, 119), CLASH);
        is("NONE alone", ErrorsTest::someItems, x -> x.fill(300, 304), NONE);
        is("NONE alone, in the dark", ErrorsTest::someItems, x -> x.fill(600, 605), NONE);
        is("FULL alone", ErrorsTest::sixtyItems, x -> x.fill(300, 305), FULL);
    }

    private static void promise8FillTogether() {
        is("BAD and CLASH", ErrorsTest::someItems, x -> x.fill(0, 241), BAD);
        is("BAD and CLASH", ErrorsTest::someItems, x -> x.fill(-1, 105), BAD);
        is("BAD and NONE", ErrorsTest::someItems, x -> x.fill(10076, 10081), BAD);
        is("BAD and FULL", ErrorsTest::sixtyItems, x -> x.fill(300, 541), BAD);
        is("CLASH and NONE", ErrorsTest::someItems, x -> x.fill(109, 111), CLASH);
        is("CLASH and FULL", ErrorsTest::sixtyItems, x -> x.fill(109, 114), CLASH);
        is("NONE and FULL", ErrorsTest::sixtyItems, x -> x.fill(300, 304), NONE);
        is("CLASH, NONE and FULL", ErrorsTest::sixtyItems, x -> x.fill(100, 102), CLASH);
    }

    /** Items: 0 live at 9900 to 10000; 1 recorded at 10000; 2 a filler at 10010; 3 a spot at 10015 to 10080. */
    private static void weeksEnd(RadioWeek x) {
        x.addProgramme(1, 100, 0);
        x.addProgramme(0, 10, 0);
        x.addProgramme(2, 5, 0);
        x.addProgramme(3, 65, 0);
        x.addRight(0, 0, 10080, 50);
        x.addRight(1, 0, 10080, 50);
        x.addRight(3, 0, 10080, 50);
        x.place(0, 9900, false);
        x.place(1, 10000, false);
        x.place(2, 10010, false);
        x.place(3, 10015, false);
    }

    private static void promise9RunOver() {
        for (int item = 1; item <= 3; item++) {
            int i = item;
            is("STATE alone, item " + i, ErrorsTest::weeksEnd, x -> x.runOver(i, 1), STATE);
            is("STATE and CLASH, item " + i, ErrorsTest::weeksEnd, x -> x.runOver(i, 120), STATE);
            is("BAD and STATE, item " + i, ErrorsTest::weeksEnd, x -> x.runOver(i, 0), BAD);
            is("BAD, STATE and CLASH, item " + i, ErrorsTest::weeksEnd, x -> x.runOver(i, 121), BAD);
        }
        is("CLASH alone", ErrorsTest::weeksEnd, x -> x.runOver(0, 81), CLASH);
        is("CLASH alone", ErrorsTest::weeksEnd, x -> x.runOver(0, 120), CLASH);
        is("BAD and CLASH", ErrorsTest::weeksEnd, x -> x.runOver(0, 121), BAD);
        is("BAD and CLASH", ErrorsTest::weeksEnd, x -> x.runOver(0, Integer.MAX_VALUE), BAD);
        is("no such item", ErrorsTest::weeksEnd, x -> x.runOver(4, 1), BAD);
        due.is("the last minute is allowed", Refusals.made(ErrorsTest::weeksEnd).runOver(0, 80), 3);
    }

    /** A play of programme 1, five minutes, is owed; its right is from 130 to 200. */
    private static void oneOwed(RadioWeek x) {
        x.addProgramme(1, 30, 0);
        x.addProgramme(3, 5, 0);
        x.addProgramme(2, 1, 0);
        x.addRight(0, 0, 10080, 50);
        x.addRight(1, 130, 200, 1);
        x.place(0, 100, false);
        x.place(1, 130, true);
        x.runOver(0, 5);
    }

    private static void promise10MakeGoodAlone() {
        due.is("it is possible", Refusals.made(ErrorsTest::oneOwed).makeGood(1, 195), 195);
        is("STATE alone", ErrorsTest::oneOwed, x -> x.makeGood(2, 0), STATE);
        is("STATE alone", ErrorsTest::oneOwed, x -> x.makeGood(0, 500), STATE);
        is("NONE alone, out of the rights", ErrorsTest::oneOwed, x -> x.makeGood(1, 196), NONE);
        Consumer<RadioWeek> full = x -> {
            oneOwed(x);
            for (int i = 0; i < 59; i++) {
                x.place(2, 1000 + i, false);
            }
        };
        due.is("there are sixty items", Refusals.made(full).items(), 60);
        is("NONE alone, with sixty items", full, x -> x.makeGood(1, 0), NONE);
        is("NONE alone, in the dark", x -> {
            oneOwed(x);
            x.addBlackout(0, 1440, 0);
        }, x -> x.makeGood(1, 0), NONE);
        is("NONE alone, something is on air", x -> {
            oneOwed(x);
            x.runOver(0, 61);
        }, x -> x.makeGood(1, 0), NONE);
    }

    private static void promise10MakeGoodTogether() {
        is("BAD and STATE", ErrorsTest::oneOwed, x -> x.makeGood(2, 10080), BAD);
        is("BAD and STATE", ErrorsTest::oneOwed, x -> x.makeGood(3, 0), BAD);
        is("BAD and NONE", ErrorsTest::oneOwed, x -> x.makeGood(1, 10080), BAD);
        is("BAD and NONE", ErrorsTest::oneOwed, x -> x.makeGood(1, -1), BAD);
        is("STATE and NONE", ErrorsTest::sixtyItems, x -> x.makeGood(0, 0), STATE);
        is("STATE and NONE", ErrorsTest::oneOwed, x -> x.makeGood(0, 10079), STATE);
    }

    /** None of these is an act, whether it answers an error or not. */
    private static void asking() {
        is("item() of no item", ErrorsTest::someItems, x -> x.item(2, 0), BAD);
        is("item() of no number", ErrorsTest::someItems, x -> x.item(1, 5), BAD);
        is("item() of a filler's right", ErrorsTest::someItems, x -> x.item(1, 4), NONE);
        is("onAir() in a silence", ErrorsTest::someItems, x -> x.onAir(99), NONE);
        is("left() of no right", ErrorsTest::someItems, x -> x.left(1), BAD);
        is("owed() of no programme", ErrorsTest::someItems, x -> x.owed(3), BAD);
        is("minutes() of no kind", ErrorsTest::someItems, x -> x.minutes(5, 0, 1), BAD);
        is("silence() of nothing", ErrorsTest::someItems, x -> x.silence(5, 5), BAD);
        is("silence() without a silence", ErrorsTest::someItems, x -> x.silence(100, 115), NONE);
        is("ranked() of no place", ErrorsTest::someItems, x -> x.ranked(3), BAD);
        is("line() of no item, after its end", ErrorsTest::someItems, x -> x.line(2, 999), BAD);
        is("line() before its beginning", ErrorsTest::someItems, x -> x.line(0, -1), BAD);
        is("line() after its end", ErrorsTest::someItems, x -> x.line(0, 999), NONE);
        is("items()", ErrorsTest::someItems, RadioWeek::items, 2);
        is("item()", ErrorsTest::someItems, x -> x.item(0, 4), 0);
        is("onAir()", ErrorsTest::someItems, x -> x.onAir(114), 1);
        is("left()", ErrorsTest::someItems, x -> x.left(0), 2);
        is("mayPlace()", ErrorsTest::someItems, x -> x.mayPlace(0, 300), 0);
        is("earliest()", ErrorsTest::someItems, x -> x.earliest(0, 100), 115);
        is("owed()", ErrorsTest::oneOwed, x -> x.owed(1), 1);
        is("minutes()", ErrorsTest::someItems, x -> x.minutes(2, 0, 10080), 5);
        is("silence()", ErrorsTest::someItems, x -> x.silence(0, 200), 10081 * 100);
        is("ranked()", ErrorsTest::someItems, x -> x.ranked(2), 2);
        is("broken()", ErrorsTest::someItems, RadioWeek::broken, 0);
        is("line()", ErrorsTest::someItems, x -> x.line(0, 0), '0');
        is("fingerprint()", x -> { }, RadioWeek::fingerprint, 73L * 31 * 31 * 31 * 31);
    }

    private static void promise22Undo() {
        is("undo() of nothing", x -> { }, RadioWeek::undo, NONE);
        is("undo() of all and one more", x -> {
            x.addProgramme(2, 5, 0);
            x.place(0, 100, false);
            x.undo();
            x.undo();
        }, RadioWeek::undo, NONE);
        is("undo() of five of seven and one more", x -> {
            x.addProgramme(2, 5, 0);
            for (int i = 0; i < 6; i++) {
                x.place(0, 100 * i, false);
            }
            for (int i = 0; i < 5; i++) {
                x.undo();
            }
        }, RadioWeek::undo, NONE);
    }
}
