import java.util.ArrayList;
import java.util.List;

/** The section FILLING and promise 8: each test tells its sentence of the document. */
public final class FillingTest {
    private static final int BAD = -1;
    private static final int FULL = -3;
    private static final int CLASH = -4;
    private static final int NONE = -9;

    private static final Due due = new Due("FillingTest");

    public static void main(String[] args) {
        noneThereOneThere();
        exactlyItsLength();
        anIntervalOfOneMinute();
        anIntervalOf240Minutes();
        theWeeksFirstAndLastInterval();
        anIntervalWithoutItems();
        oneAfterTheOther();
        fillersAlone();
        notFixed();
        noItemBreaksABlackout();
        blackoutsAtItsEnds();
        blackoutsDecideTheSequence();
        blackoutsOverMidnight();
        notDirectlyAfterItself();
        theItemBefore();
        theItemAfter();
        bothNeighbours();
        neighboursThatAreNone();
        theFewestItems();
        lexicographically();
        theSecondBestBegins();
        sixtyOfThem();
        oneActAlone();
        allSmallOnes();
        due.end();
    }

    private static RadioWeek fillers(int... lengths) {
        RadioWeek x = new RadioWeek();
        for (int length : lengths) {
            x.addProgramme(2, length, 0);
        }
        return x;
    }

    /** The answer of fill(), and the programmes of the items that it placed; the week is as before then. */
    private static void fills(String what, RadioWeek x, int from, int to, int... programmes) {
        int items = x.items();
        due.is(what + ": fill(" + from + ", " + to + ")", x.fill(from, to), programmes.length);
        due.is(what + ": items()", x.items(), items + programmes.length);
        int first = x.onAir(from);
        for (int i = 0; i < programmes.length; i++) {
            due.is(what + ": filler " + i, x.item(first + i, 0), programmes[i]);
        }
        due.is(what + ": no silence", x.silence(from, to), NONE);
        x.undo();
        due.is(what + ": items() after undo()", x.items(), items);
    }

    private static void doesNot(String what, RadioWeek x, int from, int to, int error) {
        long before = x.fingerprint();
        due.is(what + ": fill(" + from + ", " + to + ")", x.fill(from, to), error);
        due.is(what + ": fingerprint()", x.fingerprint(), before);
    }

    private static void noneThereOneThere() {
        RadioWeek x = new RadioWeek();
        doesNot("no programme", x, 0, 10, NONE);
        x.addProgramme(0, 10, 0);
        x.addRight(0, 0, 10080, 50);
        doesNot("no filler", x, 0, 10, NONE);
        x.addProgramme(2, 10, 0);
        fills("one filler", x, 0, 10, 1);
        doesNot("one filler, twice its length", x, 0, 20, NONE);
    }

    /** "whose lengths add up to exactly its length" */
    private static void exactlyItsLength() {
        RadioWeek x = fillers(10, 15);
        int[] possible = {10, 15, 25, 35, 40, 50};
        int next = 0;
        for (int length = 1; length <= 50; length++) {
            boolean can = next < possible.length && possible[next] == length;
            int answer = x.fill(1000, 1000 + length);
            due.holds("10 and 15 in turns make " + length + ": " + answer, can == (answer > 0));
            if (answer > 0) {
                due.is("the end of the last one", x.onAir(999 + length), answer - 1);
                due.is("nothing after it", x.onAir(1000 + length), NONE);
                due.is("nothing before", x.onAir(999), NONE);
                x.undo();
            }
            next += can ? 1 : 0;
        }
    }

    /** "to: from + 1..." */
    private static void anIntervalOfOneMinute() {
        RadioWeek x = fillers(2, 1);
        fills("one minute", x, 500, 501, 1);
        doesNot("no minute", x, 500, 500, BAD);
        RadioWeek y = fillers(2);
        doesNot("one minute, but none so short", y, 500, 501, NONE);
    }

    /** "...to from + 240" */
    private static void anIntervalOf240Minutes() {
        RadioWeek x = fillers(240, 239, 1, 2);
        fills("240", x, 500, 740, 0);
        fills("239", x, 500, 739, 1);
        doesNot("241 = 240 + 1", x, 500, 741, BAD);
        RadioWeek y = fillers(239, 1);
        fills("239 + 1", y, 500, 740, 0, 1);
    }

    /** "from: 0 to 10079", "to: at most 10080" */
    private static void theWeeksFirstAndLastInterval() {
        RadioWeek x = fillers(10, 5);
        fills("from 0", x, 0, 10, 0);
        fills("from 0", x, 0, 15, 0, 1);
        fills("to 10080", x, 10070, 10080, 0);
        fills("to 10080", x, 10065, 10080, 0, 1);
        doesNot("to 10081", x, 10071, 10081, BAD);
        doesNot("from -1", x, -1, 9, BAD);
        x.fill(0, 10);
        x.fill(10070, 10080);
        due.is("the first item", x.item(0, 1), 0);
        due.is("the last item", x.item(1, 1), 10070);
        due.is("onAir(10079)", x.onAir(10079), 1);
    }

    /** "CLASH if an item has a minute in the interval" */
    private static void anIntervalWithoutItems() {
        RadioWeek x = fillers(10, 1, 30);
        x.place(0, 100, false);
        doesNot("its last minute", x, 109, 119, CLASH);
        doesNot("its first minute", x, 91, 101, CLASH);
        doesNot("exactly", x, 100, 110, CLASH);
        doesNot("a minute of it", x, 105, 106, CLASH);
        doesNot("around it", x, 80, 130, CLASH);
        doesNot("around it, 240 minutes", x, 0, 240, CLASH);
        fills("directly before", x, 99, 100, 1);
        fills("directly after", x, 110, 111, 1);
        x.place(0, 111, false);
        fills("between two", x, 110, 111, 1);
    }

    /** "a sequence of fillers, one after the other from the beginning of the interval" */
    private static void oneAfterTheOther() {
        RadioWeek x = fillers(7, 5, 3);
        x.place(0, 0, false);
        x.place(1, 500, false);
        due.is("fill(100, 115)", x.fill(100, 115), 3);
        int[][] want = {{0, 100, 7}, {1, 107, 5}, {2, 112, 3}};
        for (int i = 0; i < want.length; i++) {
            due.is("programme " + i, x.item(1 + i, 0), want[i][0]);
            due.is("start " + i, x.item(1 + i, 1), want[i][1]);
            due.is("length " + i, x.item(1 + i, 2), want[i][2]);
            due.is("onAir() at start " + i, x.onAir(want[i][1]), 1 + i);
        }
        due.is("the item after them", x.item(4, 1), 500);
        due.is("the item before them", x.item(0, 1), 0);
    }

    private static void fillersAlone() {
        for (int kind = 0; kind <= 3; kind++) {
            RadioWeek x = new RadioWeek();
            x.addProgramme(kind, 10, 0);
            x.addRight(0, 0, 10080, 50);
            x.addProgramme(2, 4, 0);
            x.addProgramme(2, 6, 0);
            if (kind == 2) {
                fills("kind 2", x, 100, 110, 0);
            } else {
                fills("kind " + kind, x, 100, 110, 1, 2);
            }
        }
    }

    /** "(the items that come to it are not fixed)" */
    private static void notFixed() {
        RadioWeek x = fillers(10, 5);
        x.place(0, 85, true);
        x.place(0, 100, true);
        due.is("fill(95, 100)", x.fill(95, 100), 1);
        due.is("fill(110, 125)", x.fill(110, 125), 2);
        int[] fixed = {1, 0, 1, 0, 0};
        for (int i = 0; i < fixed.length; i++) {
            due.is("item(" + i + ", 3)", x.item(i, 3), fixed[i]);
        }
    }

    /** "so that no item breaks a blackout" */
    private static void noItemBreaksABlackout() {
        RadioWeek x = new RadioWeek();
        x.addProgramme(2, 10, 2);
        x.addProgramme(2, 10, 1);
        x.addBlackout(600, 700, 2);
        fills("light", x, 500, 510, 0);
        fills("dark", x, 650, 660, 1);
        fills("its last minute is dark", x, 591, 601, 1);
        fills("its first minute is dark", x, 699, 709, 1);
        fills("up to it", x, 590, 600, 0);
        fills("from its end on", x, 700, 710, 0);
        fills("dark on the last day", x, 6 * 1440 + 650, 6 * 1440 + 660, 1);
        x.addBlackout(655, 656, 1);
        doesNot("dark for both", x, 650, 660, NONE);
        fills("up to it", x, 645, 655, 1);
        fills("from its end on", x, 656, 666, 1);
    }

    /** The minutes directly before and after the interval do not matter, however long the sequence is. */
    private static void blackoutsAtItsEnds() {
        RadioWeek x = fillers(5, 4, 3);
        x.addBlackout(0, 100, 0);
        x.addBlackout(112, 1440, 0);
        fills("all but the interval is dark", x, 100, 112, 0, 1, 2);
        fills("on the next day", x, 1540, 1552, 0, 1, 2);
        doesNot("a minute earlier", x, 99, 111, NONE);
        doesNot("a minute later", x, 101, 113, NONE);
    }

    private static void blackoutsDecideTheSequence() {
        RadioWeek x = new RadioWeek();
        x.addProgramme(2, 10, 3);
        x.addProgramme(2, 6, 3);
        x.addProgramme(2, 4, 1);
        x.addProgramme(2, 4, 0);
        x.addProgramme(2, 2, 0);
        fills("nothing is dark", x, 100, 110, 0);
        x.addBlackout(109, 110, 3);
        fills("the last minute", x, 100, 110, 1, 2);
        x.undo();
        x.addBlackout(100, 101, 3);
        fills("the first minute", x, 100, 110, 2, 1);
        x.addBlackout(100, 101, 1);
        fills("the first minute, darker", x, 100, 110, 3, 1);
        x.addBlackout(109, 110, 3);
        fills("both", x, 100, 110, 3, 2, 4);
        x.addBlackout(104, 105, 0);
        doesNot("darker still", x, 100, 110, NONE);
    }

    private static void blackoutsOverMidnight() {
        RadioWeek x = new RadioWeek();
        x.addProgramme(2, 10, 2);
        x.addProgramme(2, 5, 2);
        x.addProgramme(2, 5, 0);
        x.addBlackout(0, 1, 1);
        fills("dark from midnight on", x, 1435, 1445, 1, 2);
        fills("until midnight", x, 1430, 1440, 0);
        x.addBlackout(1439, 1440, 1);
        doesNot("dark on both sides", x, 1435, 1445, NONE);
    }

    /** "no filler comes directly after itself" */
    private static void notDirectlyAfterItself() {
        RadioWeek x = fillers(5);
        fills("once", x, 100, 105, 0);
        doesNot("twice", x, 100, 110, NONE);
        doesNot("three times", x, 100, 115, NONE);
        x.addProgramme(2, 5, 0);
        fills("another one of the same length", x, 100, 110, 0, 1);
        fills("again, but not directly after itself", x, 100, 115, 0, 1, 0);
        fills("in turns", x, 100, 120, 0, 1, 0, 1);
        x.addProgramme(2, 10, 0);
        fills("fewer", x, 100, 115, 0, 2);
        fills("the longer one comes once only", x, 100, 120, 0, 1, 2);
    }

    /** "the item that ends where the interval begins" */
    private static void theItemBefore() {
        for (int fixed = 0; fixed <= 1; fixed++) {
            RadioWeek x = fillers(5, 5, 10);
            x.place(0, 95, fixed == 1);
            fills("not the one before", x, 100, 105, 1);
            fills("it may come second", x, 100, 110, 2);
            fills("a minute of silence", x, 101, 106, 0);
            x.remove(0);
            fills("it is gone", x, 100, 105, 0);
            x.place(2, 90, fixed == 1);
            fills("another one before", x, 100, 105, 0);
            fills("the one that would be fewest is before", x, 100, 110, 0, 1);
        }
        RadioWeek y = fillers(5);
        y.place(0, 0, false);
        doesNot("alone, after itself", y, 5, 10, NONE);
        fills("alone, a minute later", y, 6, 11, 0);
    }

    /** "the item that begins where it ends" */
    private static void theItemAfter() {
        for (int fixed = 0; fixed <= 1; fixed++) {
            RadioWeek x = fillers(5, 5, 10);
            x.place(0, 105, fixed == 1);
            fills("not the one after", x, 100, 105, 1);
            fills("ten", x, 95, 105, 2);
            fills("a minute of silence", x, 99, 104, 0);
            x.remove(0);
            fills("it is gone", x, 100, 105, 0);
            x.place(2, 105, fixed == 1);
            fills("the one that would be fewest is after", x, 95, 105, 0, 1);
            x.remove(0);
            x.place(1, 105, fixed == 1);
            fills("the first in order is free", x, 100, 105, 0);
            RadioWeek z = fillers(5, 5);
            z.place(1, 110, fixed == 1);
            fills("the last one differs from the one after", z, 100, 110, 1, 0);
        }
        RadioWeek y = fillers(5);
        y.place(0, 10075, false);
        doesNot("alone, before itself", y, 10070, 10075, NONE);
        fills("alone, a minute earlier", y, 10069, 10074, 0);
    }

    private static void bothNeighbours() {
        RadioWeek x = fillers(5, 5);
        x.place(0, 95, false);
        x.place(0, 105, false);
        fills("the same on both sides", x, 100, 105, 1);
        x.remove(1);
        x.place(1, 105, false);
        doesNot("both of two", x, 100, 105, NONE);
        x.remove(1);
        x.place(1, 110, false);
        fills("two between both", x, 100, 110, 1, 0);
        x.remove(1);
        x.place(0, 110, false);
        doesNot("two between the same", x, 100, 110, NONE);
        x.remove(1);
        x.place(0, 115, false);
        fills("three between the same", x, 100, 115, 1, 0, 1);
        x.remove(1);
        x.place(1, 115, false);
        doesNot("three between both", x, 100, 115, NONE);
        x.addProgramme(2, 5, 0);
        fills("a third one between both", x, 100, 115, 1, 0, 2);
    }

    /** Other kinds of the same number of minutes, and items that do not touch, are no hindrance. */
    private static void neighboursThatAreNone() {
        for (int kind = 0; kind <= 3; kind++) {
            RadioWeek x = new RadioWeek();
            x.addProgramme(kind, 5, 0);
            x.addRight(0, 0, 10080, 50);
            x.addProgramme(2, 5, 0);
            x.place(0, 95, false);
            x.place(0, 105, false);
            fills("between items of kind " + kind, x, 100, 105, 1);
        }
        RadioWeek y = fillers(5);
        y.place(0, 94, false);
        y.place(0, 106, false);
        fills("a minute of silence on both sides", y, 100, 105, 0);
        doesNot("one side touches", y, 99, 104, NONE);
        doesNot("the other side touches", y, 101, 106, NONE);
    }

    /** "Of all such sequences one with the fewest items is taken" */
    private static void theFewestItems() {
        RadioWeek x = fillers(1, 2, 3, 4, 6);
        fills("one of one", x, 100, 106, 4);
        fills("two, though the first in order has more", x, 100, 107, 0, 4);
        fills("two", x, 100, 110, 3, 4);
        fills("three: 6 + 6 is not allowed", x, 100, 112, 1, 3, 4);
        fills("three", x, 100, 113, 2, 3, 4);
        RadioWeek y = fillers(5, 4, 3, 1);
        fills("4 + 3, not 5 + 1 + ...", y, 100, 107, 1, 2);
        fills("5 + 3, not 5 + ... + 1", y, 100, 108, 0, 2);
    }

    /** "of these the one whose programme numbers come first lexicographically" */
    private static void lexicographically() {
        RadioWeek x = fillers(8, 2, 5, 5, 9, 1);
        fills("the first number decides", x, 100, 110, 0, 1);
        RadioWeek y = fillers(3, 4, 5, 5, 5);
        fills("the second number decides", y, 100, 108, 0, 2);
        fills("the last number decides", y, 100, 113, 0, 2, 3);
        fills("numbers, not lengths", fillers(9, 1, 5, 4, 6), 100, 110, 0, 1);
        fills("numbers, not lengths", fillers(1, 9, 5, 4, 6), 100, 110, 0, 1);
        RadioWeek z = new RadioWeek();
        for (int p = 0; p < 16; p++) {
            z.addProgramme(2, 5, 0);
        }
        fills("sixteen of the same length", z, 100, 105, 0);
        fills("sixteen of the same length, twice", z, 100, 110, 0, 1);
        z.place(0, 95, false);
        z.place(1, 115, false);
        fills("sixteen of the same length, three times", z, 100, 115, 1, 0, 2);
        RadioWeek w = fillers(100, 100, 100, 100, 100, 100, 100, 100, 100, 100, 4, 6);
        fills("10 comes after 9, but before 11", w, 100, 110, 10, 11);
    }

    /** After the item before, the second best filler begins, the first in order of those with the fewest items. */
    private static void theSecondBestBegins() {
        RadioWeek x = fillers(5, 10, 5);
        x.place(1, 90, false);
        fills("the best one is before", x, 100, 110, 0, 2);
        RadioWeek y = fillers(10, 5, 5, 10);
        y.place(0, 90, false);
        fills("another one as good", y, 100, 110, 3);
        y.place(3, 110, false);
        fills("but after it", y, 100, 110, 1, 2);
        RadioWeek z = fillers(2, 3, 10, 5, 5);
        z.place(2, 90, false);
        fills("the second best is found first", z, 100, 110, 3, 4);
    }

    /** "FULL if there would be more than 60 items." */
    private static void sixtyOfThem() {
        RadioWeek x = fillers(4, 4);
        due.is("240 minutes of four", x.fill(1000, 1240), 60);
        due.is("items()", x.items(), 60);
        due.is("the last one", x.item(59, 0), 1);
        doesNot("one more", x, 2000, 2004, FULL);
        x.remove(59);
        doesNot("two more", x, 2000, 2008, FULL);
        fills("one more", x, 2000, 2004, 0);
        RadioWeek y = fillers(1, 1);
        doesNot("61 minutes", y, 0, 61, FULL);
        doesNot("240 minutes", y, 0, 240, FULL);
        due.is("60 minutes", y.fill(0, 60), 60);
    }

    /** "This is an act." */
    private static void oneActAlone() {
        RadioWeek x = fillers(5, 4, 3);
        due.is("fill(100, 112)", x.fill(100, 112), 3);
        due.is("undo()", x.undo(), 3);
        due.is("items()", x.items(), 0);
        due.is("undo()", x.undo(), 2);
        due.is("two fillers are left", x.fill(100, 109), 2);
        due.is("undo()", x.undo(), 2);
    }

    /** The document's words, without any art: all sequences of 1, 2, ... items in their order. */
    private static boolean sequence(int[] lengths, int minutes, int items, int before, int after, List<Integer> found) {
        if (items == 0) {
            return minutes == 0 && before != after;
        }
        for (int p = 0; p < lengths.length; p++) {
            if (p != before && lengths[p] <= minutes) {
                found.add(p);
                if (sequence(lengths, minutes - lengths[p], items - 1, p, after, found)) {
                    return true;
                }
                found.remove(found.size() - 1);
            }
        }
        return false;
    }

    /** All intervals up to 13 minutes for three fillers of up to 6, with each of them or nothing on both sides. */
    private static void allSmallOnes() {
        for (int code = 0; code < 216; code++) {
            int[] lengths = {1 + code / 36, 1 + code / 6 % 6, 1 + code % 6};
            for (int before = -1; before < 3; before++) {
                for (int after = -1; after < 3; after++) {
                    smallOnes(lengths, before, after);
                }
            }
        }
    }

    private static void smallOnes(int[] lengths, int before, int after) {
        RadioWeek x = fillers(lengths);
        for (int minutes = 1; minutes <= 13; minutes++) {
            int acts = 0;
            if (before >= 0) {
                x.place(before, 1000 - lengths[before], false);
                acts++;
            }
            if (after >= 0) {
                x.place(after, 1000 + minutes, false);
                acts++;
            }
            List<Integer> found = new ArrayList<>();
            boolean can = false;
            for (int items = 1; items <= minutes && !can; items++) {
                can = sequence(lengths, minutes, items, before, after >= 0 ? after : -2, found);
            }
            String what = "fill(1000, " + (1000 + minutes) + ") with " + lengths[0] + ", " + lengths[1] + ", "
                    + lengths[2] + " between " + before + " and " + after;
            due.is(what, x.fill(1000, 1000 + minutes), can ? found.size() : NONE);
            for (int i = 0; i < found.size(); i++) {
                due.is(what + ", item " + i, x.item(i + (before >= 0 ? 1 : 0), 0), found.get(i));
            }
            for (int back = can ? -1 : 0; back < acts; back++) {
                x.undo();
            }
            due.is(what + ", undone", x.items(), 0);
        }
    }
}
