/** Promises 5 to 10: place, remove, earliest, fill, runOver and makeGood. */
public final class PlacingTest {
    private static final Due due = new Due("PlacingTest");

    private static final int RECORDED = 0;
    private static final int LIVE = 1;
    private static final int FILLER = 2;
    private static final int SPOT = 3;

    public static void main(String[] args) {
        promise5Numbers();
        promise5WrongArguments();
        promise5Clash();
        promise5Rights();
        promise5RightsOfItemsThere();
        promise5Dark();
        promise5OrderOfErrors();
        promise6Remove();
        promise7Earliest();
        promise7EarliestPassesWhatIsInTheWay();
        promise8Fewest();
        promise8NotTwiceInARow();
        promise8Neighbours();
        promise8Dark();
        promise8Errors();
        promise8Full();
        promise9Errors();
        promise9Drops();
        promise9Cuts();
        promise9Pushes();
        promise9PushStops();
        promise9PushedIntoTheDark();
        promise9PushedOverTheWeek();
        promise9PushedOutOfRights();
        promise9RightsBrokenBefore();
        promise9RightsOfItemsStillThere();
        promise10MakeGood();
        promise10Errors();
        due.end();
    }

    /** A programme with a right for the whole week. */
    private static int withRight(RadioWeek x, int kind, int length, int rating) {
        int programme = x.addProgramme(kind, length, rating);
        x.addRight(programme, 0, 10080, 50);
        return programme;
    }

    private static void itemIs(RadioWeek x, int item, int programme, int start, int length, int fixed) {
        due.is("programme of item " + item, x.item(item, 0), programme);
        due.is("start of item " + item, x.item(item, 1), start);
        due.is("length of item " + item, x.item(item, 2), length);
        due.is("item " + item + " is fixed", x.item(item, 3), fixed);
    }

    private static void promise5Numbers() {
        RadioWeek x = new RadioWeek();
        withRight(x, RECORDED, 10, 0);
        due.is("the first item", x.place(0, 500, false), 0);
        due.is("an item after it", x.place(0, 510, true), 1);
        due.is("an item before both", x.place(0, 490, false), 0);
        due.is("an item between", x.place(0, 10070, true), 3);
        itemIs(x, 0, 0, 490, 10, 0);
        itemIs(x, 1, 0, 500, 10, 0);
        itemIs(x, 2, 0, 510, 10, 1);
        itemIs(x, 3, 0, 10070, 10, 1);
        due.is("items()", x.items(), 4);
        due.is("undo()", x.undo(), 4);
        due.is("items() after undo()", x.items(), 3);
    }

    private static void promise5WrongArguments() {
        RadioWeek x = new RadioWeek();
        due.is("no programme", x.place(0, 0, false), -1);
        x.addProgramme(FILLER, 10, 0);
        int[][] bad = {{-1, 0}, {1, 0}, {0, -1}, {0, 10080}, {Integer.MIN_VALUE, 0}, {Integer.MAX_VALUE, 0},
            {0, Integer.MIN_VALUE}, {0, Integer.MAX_VALUE}};
        for (int[] b : bad) {
            due.is("place(" + b[0] + ", " + b[1] + ", true)", x.place(b[0], b[1], true), -1);
        }
        due.is("nothing was kept: undo()", x.undo(), 0);
    }

    private static void promise5Clash() {
        RadioWeek x = new RadioWeek();
        x.addProgramme(FILLER, 10, 0);
        x.addProgramme(FILLER, 30, 0);
        x.place(0, 100, false);
        due.is("ends a minute too late", x.place(0, 91, false), -4);
        due.is("begins a minute too early", x.place(0, 109, false), -4);
        due.is("the same start", x.place(0, 100, false), -4);
        due.is("around it", x.place(1, 90, false), -4);
        due.is("directly before", x.place(0, 90, false), 0);
        due.is("directly after", x.place(0, 110, false), 2);
        due.is("after the week's end", x.place(0, 10071, false), -4);
        due.is("at the week's end", x.place(0, 10070, false), 3);
    }

    private static void promise5Rights() {
        RadioWeek x = new RadioWeek();
        x.addProgramme(RECORDED, 10, 0);
        x.addProgramme(SPOT, 10, 0);
        x.addProgramme(FILLER, 10, 0);
        due.is("no right at all", x.place(0, 100, false), -5);
        x.addRight(1, 0, 10080, 50);
        due.is("another programme's right", x.place(0, 100, false), -5);
        x.addRight(0, 100, 120, 1);
        due.is("before the window", x.place(0, 99, false), -5);
        due.is("after the window", x.place(0, 111, false), -5);
        due.is("the last start of the window", x.mayPlace(0, 110), 0);
        due.is("the first start of the window", x.place(0, 100, false), 0);
        due.is("no play left", x.place(0, 110, false), -5);
        x.addRight(0, 100, 120, 1);
        due.is("a second right", x.place(0, 110, false), 1);
        due.is("a filler needs none", x.place(2, 300, false), 2);
        due.is("a filler's rights do not matter", x.addRight(2, 0, 1, 1), 3);
        due.is("a filler still needs none", x.place(2, 400, false), 3);
    }

    /** An earlier item takes the right that a later one needs. */
    private static void promise5RightsOfItemsThere() {
        RadioWeek x = new RadioWeek();
        x.addProgramme(RECORDED, 10, 0);
        x.addProgramme(RECORDED, 10, 0);
        x.addRight(1, 300, 310, 1);
        x.addRight(0, 0, 400, 1);
        x.place(0, 200, false);
        due.is("the item there would find none", x.place(0, 100, false), -5);
        due.is("items()", x.items(), 1);
        due.is("another programme's item", x.place(1, 300, false), 1);
        x.addRight(0, 150, 220, 1);
        due.is("now there are two", x.place(0, 100, false), 0);
        due.is("the item there uses the one that ends first", x.item(1, 4), 2);
        due.is("the new item uses the other", x.item(0, 4), 1);
    }

    private static void promise5Dark() {
        RadioWeek x = new RadioWeek();
        x.addBlackout(600, 700, 2);
        x.addProgramme(FILLER, 10, 1);
        x.addProgramme(FILLER, 10, 2);
        x.addProgramme(FILLER, 10, 3);
        due.is("a lower rating", x.mayPlace(0, 650), 0);
        due.is("the same rating", x.place(1, 650, false), -6);
        due.is("a higher rating", x.place(2, 650, false), -6);
        due.is("each day", x.place(2, 6 * 1440 + 650, false), -6);
        due.is("a minute in it before", x.place(1, 591, false), -6);
        due.is("a minute in it after", x.place(1, 699, false), -6);
        due.is("directly before", x.place(1, 590, false), 0);
        due.is("directly after", x.place(1, 700, false), 1);
        x.addBlackout(0, 5, 2);
        due.is("over midnight", x.place(1, 1435, false), -6);
        due.is("until midnight", x.place(1, 1430, false), 2);
    }

    private static void promise5OrderOfErrors() {
        RadioWeek x = new RadioWeek();
        x.addProgramme(RECORDED, 10, 0);
        x.addProgramme(FILLER, 1, 0);
        x.place(1, 100, false);
        x.addBlackout(0, 1440, 0);
        due.is("CLASH before RIGHT and DARK", x.place(0, 95, false), -4);
        due.is("RIGHT before DARK", x.place(0, 200, false), -5);
        due.is("CLASH at the week's end before RIGHT", x.place(0, 10075, false), -4);
        x.undo();
        for (int i = 1; i < 60; i++) {
            due.is("item " + i, x.place(1, 100 + i, false), i);
        }
        due.is("FULL before CLASH", x.place(1, 100, false), -3);
        due.is("FULL before CLASH at the week's end", x.place(0, 10075, false), -3);
        due.is("BAD before FULL", x.place(1, 10080, false), -1);
        due.is("items()", x.items(), 60);
        x.remove(0);
        due.is("there is room again", x.place(1, 100, false), 0);
    }

    private static void promise6Remove() {
        RadioWeek x = new RadioWeek();
        due.is("nothing to remove", x.remove(0), -1);
        x.addProgramme(FILLER, 10, 0);
        x.addProgramme(SPOT, 5, 0);
        x.addRight(1, 0, 10080, 1);
        x.place(0, 100, true);
        x.place(1, 200, true);
        x.place(0, 300, false);
        due.is("remove(3)", x.remove(3), -1);
        due.is("remove(-1)", x.remove(-1), -1);
        due.is("remove(greatest)", x.remove(Integer.MAX_VALUE), -1);
        due.is("left(0)", x.left(0), 0);
        due.is("remove(1)", x.remove(1), 2);
        due.is("left(0) then", x.left(0), 1);
        due.is("a spot that is removed is not owed", x.owed(1), 0);
        itemIs(x, 0, 0, 100, 10, 1);
        itemIs(x, 1, 0, 300, 10, 0);
        due.is("remove(1)", x.remove(1), 1);
        due.is("remove(0)", x.remove(0), 0);
        due.is("undo()", x.undo(), 4);
        due.is("undo()", x.undo(), 3);
        due.is("undo()", x.undo(), 2);
        itemIs(x, 1, 1, 200, 5, 1);
    }

    private static void promise7Earliest() {
        RadioWeek x = new RadioWeek();
        due.is("no programme", x.earliest(0, 0), -1);
        x.addProgramme(RECORDED, 10, 0);
        x.addProgramme(FILLER, 10, 0);
        due.is("earliest(2, 0)", x.earliest(2, 0), -1);
        due.is("earliest(-1, 0)", x.earliest(-1, 0), -1);
        due.is("earliest(0, -1)", x.earliest(0, -1), -1);
        due.is("earliest(0, 10080)", x.earliest(0, 10080), -1);
        due.is("earliest(0, greatest)", x.earliest(0, Integer.MAX_VALUE), -1);
        due.is("without a right", x.earliest(0, 0), -9);
        x.addRight(0, 2000, 2020, 1);
        due.is("after + 1439 is tried", x.earliest(0, 2000 - 1439), 2000);
        due.is("after + 1440 is not tried", x.earliest(0, 2000 - 1440), -9);
        due.is("within the window", x.earliest(0, 2005), 2005);
        due.is("the last start", x.earliest(0, 2010), 2010);
        due.is("after the last start", x.earliest(0, 2011), -9);
        due.is("the week's last start", x.earliest(1, 10070), 10070);
        due.is("after the week's last start", x.earliest(1, 10071), -9);
        due.is("the greatest after", x.earliest(1, 10079), -9);
        due.is("it is no act", x.undo(), 2);
    }

    private static void promise7EarliestPassesWhatIsInTheWay() {
        RadioWeek x = new RadioWeek();
        withRight(x, RECORDED, 30, 1);
        x.addProgramme(RECORDED, 30, 0);
        x.addProgramme(FILLER, 10, 0);
        x.addRight(1, 0, 10080, 1);
        x.addRight(1, 400, 500, 1);
        x.place(2, 20, false);
        x.place(2, 50, false);
        x.addBlackout(70, 120, 1);
        due.is("after two items and a blackout", x.earliest(0, 0), 120);
        due.is("lower rating: after two items", x.earliest(1, 0), 60);
        x.place(1, 430, false);
        x.place(1, 200, false);
        due.is("both rights are used", x.earliest(1, 0), -9);
        x.remove(2);
        x.addRight(1, 600, 640, 1);
        due.is("the narrow right is used by the item there", x.earliest(1, 100), 100);
        x.place(1, 100, false);
        due.is("the next window", x.earliest(1, 100), 600);
        for (int i = x.items(); i < 60; i++) {
            x.place(2, 5000 + 10 * i, false);
        }
        due.is("no room", x.earliest(2, 0), -9);
    }

    private static void fillers(RadioWeek x, int... lengths) {
        for (int length : lengths) {
            x.addProgramme(FILLER, length, 0);
        }
    }

    private static void sequenceIs(RadioWeek x, int firstItem, int... programmes) {
        for (int i = 0; i < programmes.length; i++) {
            due.is("filler " + i, x.item(firstItem + i, 0), programmes[i]);
            due.is("filler " + i + " is not fixed", x.item(firstItem + i, 3), 0);
        }
    }

    private static void promise8Fewest() {
        RadioWeek x = new RadioWeek();
        fillers(x, 1, 2, 5, 9, 8, 4, 7);
        x.addProgramme(RECORDED, 10, 0);
        x.addRight(7, 0, 10080, 50);
        due.is("two of different lengths", x.fill(100, 110), 2);
        // 9 + 1 and 1 + 9, 8 + 2 and 2 + 8; not the recorded programme of exactly 10.
        sequenceIs(x, 0, 0, 3);
        itemIs(x, 0, 0, 100, 1, 0);
        itemIs(x, 1, 3, 101, 9, 0);
        due.is("one", x.fill(1000, 1007), 1);
        sequenceIs(x, 2, 6);
        due.is("undo()", x.undo(), 4);
        due.is("items()", x.items(), 2);
        due.is("undo() of both items at once", x.undo(), 3);
        due.is("items()", x.items(), 0);
    }

    private static void promise8NotTwiceInARow() {
        RadioWeek x = new RadioWeek();
        fillers(x, 6, 3);
        due.is("6 + 6 is not allowed, 3 + 6 + 3 is", x.fill(0, 12), 3);
        sequenceIs(x, 0, 1, 0, 1);
        due.is("3 + 3 is not allowed", x.fill(1000, 1007), -9);
        due.is("6 + 3 or 3 + 6: the first in order", x.fill(2000, 2009), 2);
        sequenceIs(x, 3, 0, 1);
        RadioWeek y = new RadioWeek();
        fillers(y, 5, 5);
        due.is("different programmes of the same length", y.fill(0, 20), 4);
        sequenceIs(y, 0, 0, 1, 0, 1);
    }

    private static void promise8Neighbours() {
        RadioWeek x = new RadioWeek();
        fillers(x, 5, 5);
        x.addProgramme(RECORDED, 5, 0);
        x.addRight(2, 0, 10080, 50);
        x.place(0, 95, true);
        due.is("not the one directly before", x.fill(100, 105), 1);
        itemIs(x, 1, 1, 100, 5, 0);
        x.undo();
        x.place(1, 105, true);
        due.is("neither of the two", x.fill(100, 105), -9);
        due.is("two: not before, not after", x.fill(85, 95), 2);
        sequenceIs(x, 0, 0, 1);
        x.undo();
        due.is("a minute of silence between", x.fill(111, 116), 1);
        sequenceIs(x, 2, 0);
        RadioWeek y = new RadioWeek();
        fillers(y, 5);
        y.addProgramme(RECORDED, 5, 0);
        y.addRight(1, 0, 10080, 50);
        y.place(1, 0, false);
        y.place(1, 10, false);
        due.is("between others than fillers", y.fill(5, 10), 1);
        RadioWeek z = new RadioWeek();
        fillers(z, 4, 6, 10);
        z.place(2, 110, false);
        due.is("the last one differs from the one after", z.fill(100, 110), 2);
        sequenceIs(z, 0, 0, 1);
    }

    private static void promise8Dark() {
        RadioWeek x = new RadioWeek();
        x.addProgramme(FILLER, 10, 2);
        x.addProgramme(FILLER, 5, 2);
        x.addProgramme(FILLER, 5, 1);
        x.addProgramme(FILLER, 5, 0);
        x.addBlackout(108, 109, 2);
        due.is("the second half is dark for rating 2", x.fill(100, 110), 2);
        sequenceIs(x, 0, 1, 2);
        due.is("on the second day, too", x.fill(1540, 1550), 2);
        x.addBlackout(200, 300, 0);
        due.is("all dark", x.fill(200, 210), -9);
        due.is("dark at its end", x.fill(195, 205), -9);
        due.is("not dark", x.fill(190, 200), 1);
    }

    private static void promise8Errors() {
        RadioWeek x = new RadioWeek();
        int[][] bad = {{-1, 5}, {10080, 10081}, {10080, 10080}, {5, 5}, {5, 4}, {0, 241}, {10000, 10081},
            {Integer.MIN_VALUE, Integer.MIN_VALUE + 5}, {Integer.MAX_VALUE, Integer.MIN_VALUE},
            {Integer.MIN_VALUE, 0}, {0, Integer.MAX_VALUE}};
        fillers(x, 120, 119, 1);
        for (int[] b : bad) {
            due.is("fill(" + b[0] + ", " + b[1] + ")", x.fill(b[0], b[1]), -1);
        }
        due.is("240 minutes", x.fill(0, 240), 3);
        sequenceIs(x, 0, 0, 1, 2);
        due.is("the last minute of an item", x.fill(239, 240), -4);
        due.is("an item within", x.fill(100, 330), -4);
        due.is("an item at its end", x.fill(9900, 9901), 1);
        due.is("an item at its end", x.fill(9899, 9901), -4);
        due.is("at the week's end", x.fill(10079, 10080), 1);
        due.is("no sequence", x.fill(500, 502), -9);
        due.is("errors keep nothing", x.undo(), 4);
    }

    private static void promise8Full() {
        RadioWeek x = new RadioWeek();
        fillers(x, 1, 1, 7);
        for (int i = 0; i < 57; i++) {
            x.place(2, 1000 + 7 * i, false);
        }
        due.is("items()", x.items(), 57);
        due.is("one too many", x.fill(0, 4), -3);
        due.is("one too many elsewhere", x.fill(996, 1000), -3);
        due.is("sixty are allowed", x.fill(0, 3), 3);
        due.is("items()", x.items(), 60);
        due.is("full", x.fill(500, 501), -3);
        due.is("CLASH before FULL", x.fill(2, 3), -4);
        RadioWeek y = new RadioWeek();
        fillers(y, 2);
        for (int i = 0; i < 60; i++) {
            y.place(0, 3 * i, false);
        }
        due.is("NONE before FULL", y.fill(1000, 1003), -9);
        RadioWeek z = new RadioWeek();
        fillers(z, 1, 1);
        due.is("240 items would be too many", z.fill(0, 240), -3);
        due.is("61 items would be too many", z.fill(0, 61), -3);
        due.is("sixty are not", z.fill(0, 60), 60);
    }

    private static void promise9Errors() {
        RadioWeek x = new RadioWeek();
        due.is("no item", x.runOver(0, 1), -1);
        withRight(x, LIVE, 30, 0);
        withRight(x, RECORDED, 10, 0);
        withRight(x, SPOT, 10, 0);
        x.addProgramme(FILLER, 10, 0);
        x.place(0, 9930, true);
        x.place(1, 0, false);
        x.place(2, 10, false);
        x.place(3, 20, false);
        for (int item = 0; item < 3; item++) {
            due.is("not live: item " + item, x.runOver(item, 5), -2);
            due.is("BAD before STATE", x.runOver(item, 0), -1);
        }
        int[][] bad = {{-1, 5}, {4, 5}, {3, 0}, {3, -1}, {3, 121}, {3, Integer.MAX_VALUE}, {3, Integer.MIN_VALUE},
            {Integer.MAX_VALUE, 5}, {Integer.MIN_VALUE, 5}};
        for (int[] b : bad) {
            due.is("runOver(" + b[0] + ", " + b[1] + ")", x.runOver(b[0], b[1]), -1);
        }
        due.is("until the week's end", x.runOver(3, 120), 0);
        itemIs(x, 3, 0, 9930, 150, 1);
        due.is("over the week's end", x.runOver(3, 1), -4);
        due.is("it is an act", x.undo(), 4);
        itemIs(x, 3, 0, 9930, 30, 1);
    }

    private static void promise9Drops() {
        RadioWeek x = new RadioWeek();
        withRight(x, LIVE, 30, 0);
        withRight(x, SPOT, 5, 0);
        withRight(x, RECORDED, 5, 0);
        x.addProgramme(FILLER, 5, 0);
        x.place(0, 100, false);
        x.place(3, 130, false);
        x.place(3, 135, true);
        x.place(1, 140, true);
        x.place(2, 145, true);
        x.place(3, 150, true);
        due.is("fillers and fixed items that end by then", x.runOver(0, 20), 4);
        due.is("items()", x.items(), 2);
        itemIs(x, 0, 0, 100, 50, 0);
        itemIs(x, 1, 3, 150, 5, 1);
        due.is("the fixed spot is owed", x.owed(1), 1);
        due.is("the recorded programme is not owed", x.owed(2), 0);
        due.is("the filler is not owed", x.owed(3), 0);
        due.is("the filler with one minute in it", x.runOver(0, 1), 1);
        due.is("items()", x.items(), 1);
        x.undo();
        due.is("undo() brings it back", x.items(), 2);
        x.undo();
        due.is("undo() brings all back", x.items(), 6);
        due.is("and nothing is owed", x.owed(1), 0);
    }

    private static void promise9Cuts() {
        RadioWeek x = new RadioWeek();
        withRight(x, LIVE, 30, 0);
        withRight(x, SPOT, 10, 0);
        x.addProgramme(FILLER, 10, 0);
        x.place(0, 100, false);
        x.place(1, 130, true);
        x.place(2, 140, false);
        due.is("a fixed item is cut", x.runOver(0, 9), 0);
        itemIs(x, 1, 1, 139, 1, 1);
        itemIs(x, 2, 2, 140, 10, 0);
        due.is("nothing is owed", x.owed(1), 0);
        due.is("to nothing: it is dropped", x.runOver(0, 1), 1);
        itemIs(x, 1, 2, 140, 10, 0);
        due.is("owed(1)", x.owed(1), 1);
        RadioWeek y = new RadioWeek();
        withRight(y, LIVE, 30, 0);
        withRight(y, RECORDED, 10, 3);
        y.place(0, 100, false);
        y.place(1, 130, false);
        y.place(1, 140, true);
        y.addBlackout(140, 150, 3);
        due.is("a cut item may break a blackout, a pushed one not", y.runOver(0, 5), 1);
        itemIs(y, 1, 1, 140, 10, 1);
    }

    private static void promise9Pushes() {
        RadioWeek x = new RadioWeek();
        withRight(x, LIVE, 30, 0);
        withRight(x, SPOT, 10, 0);
        withRight(x, RECORDED, 20, 0);
        x.place(0, 100, false);
        x.place(1, 130, false);
        x.place(2, 140, false);
        x.place(0, 160, false);
        x.place(2, 200, true);
        due.is("all are pushed, the fixed one is cut", x.runOver(0, 15), 0);
        itemIs(x, 0, 0, 100, 45, 0);
        itemIs(x, 1, 1, 145, 10, 0);
        itemIs(x, 2, 2, 155, 20, 0);
        itemIs(x, 3, 0, 175, 30, 0);
        itemIs(x, 4, 2, 205, 15, 1);
        due.is("items()", x.items(), 5);
    }

    private static void promise9PushStops() {
        RadioWeek x = new RadioWeek();
        withRight(x, LIVE, 30, 0);
        withRight(x, SPOT, 10, 0);
        x.addProgramme(FILLER, 10, 0);
        x.place(0, 100, false);
        x.place(1, 130, false);
        x.place(1, 142, false);
        x.place(2, 160, false);
        due.is("until one starts at the new end", x.runOver(0, 2), 0);
        itemIs(x, 1, 1, 132, 10, 0);
        itemIs(x, 2, 1, 142, 10, 0);
        itemIs(x, 3, 2, 160, 10, 0);
        due.is("a minute more pushes both", x.runOver(0, 1), 0);
        itemIs(x, 2, 1, 143, 10, 0);
        itemIs(x, 3, 2, 160, 10, 0);
        due.is("up to the filler, which stays", x.runOver(0, 7), 0);
        itemIs(x, 2, 1, 150, 10, 0);
        due.is("items()", x.items(), 4);
        due.is("into the filler, which goes", x.runOver(0, 1), 1);
        itemIs(x, 2, 1, 151, 10, 0);
        due.is("items()", x.items(), 3);
    }

    private static void promise9PushedIntoTheDark() {
        RadioWeek x = new RadioWeek();
        withRight(x, LIVE, 30, 3);
        withRight(x, SPOT, 10, 2);
        withRight(x, SPOT, 10, 1);
        x.addBlackout(141, 150, 2);
        x.place(0, 100, false);
        x.place(1, 130, false);
        x.place(2, 140, false);
        due.is("up to the blackout", x.runOver(0, 1), 0);
        itemIs(x, 1, 1, 131, 10, 0);
        itemIs(x, 2, 2, 141, 10, 0);
        due.is("into the blackout", x.runOver(0, 1), 1);
        itemIs(x, 1, 2, 141, 10, 0);
        due.is("owed(1)", x.owed(1), 1);
        due.is("owed(2)", x.owed(2), 0);
        due.is("the live programme itself may", x.runOver(0, 10), 0);
        itemIs(x, 0, 0, 100, 42, 0);
        itemIs(x, 1, 2, 142, 10, 0);
    }

    private static void promise9PushedOverTheWeek() {
        RadioWeek x = new RadioWeek();
        withRight(x, LIVE, 30, 0);
        withRight(x, SPOT, 10, 0);
        withRight(x, RECORDED, 5, 0);
        x.place(0, 10000, false);
        x.place(1, 10030, false);
        x.place(2, 10070, false);
        due.is("up to the week's end", x.runOver(0, 35), 0);
        itemIs(x, 1, 1, 10065, 10, 0);
        itemIs(x, 2, 2, 10075, 5, 0);
        due.is("over the week's end", x.runOver(0, 1), 1);
        itemIs(x, 1, 1, 10066, 10, 0);
        due.is("items()", x.items(), 2);
        due.is("over the week's end", x.runOver(0, 5), 1);
        due.is("owed(1)", x.owed(1), 1);
    }

    private static void promise9PushedOutOfRights() {
        RadioWeek x = new RadioWeek();
        withRight(x, LIVE, 30, 0);
        x.addProgramme(SPOT, 10, 0);
        x.addRight(1, 100, 150, 1);
        x.place(0, 100, false);
        x.place(1, 130, false);
        due.is("up to the window's end", x.runOver(0, 10), 0);
        itemIs(x, 1, 1, 140, 10, 0);
        due.is("out of the window", x.runOver(0, 1), 1);
        due.is("owed(1)", x.owed(1), 1);
        due.is("left(1)", x.left(1), 1);
    }

    /** The live item itself left its window: then a pushed item of its programme is dropped. */
    private static void promise9RightsBrokenBefore() {
        RadioWeek x = new RadioWeek();
        x.addProgramme(LIVE, 10, 0);
        withRight(x, SPOT, 10, 0);
        x.addRight(0, 100, 110, 1);
        x.addRight(0, 0, 10080, 1);
        x.place(0, 100, false);
        x.place(1, 110, false);
        x.place(0, 120, false);
        x.place(0, 300, false);
        due.is("a third item has no right", x.items(), 3);
        due.is("runOver(0, 5)", x.runOver(0, 5), 1);
        due.is("the live item uses the other right now", x.item(0, 4), 2);
        due.is("the spot of another programme was pushed", x.item(1, 1), 115);
        due.is("items()", x.items(), 2);
        x.place(0, 9000, false);
        due.is("no right for it", x.items(), 2);
        RadioWeek y = new RadioWeek();
        y.addProgramme(LIVE, 10, 0);
        y.addRight(0, 100, 115, 1);
        y.addRight(0, 118, 10080, 1);
        y.place(0, 100, false);
        y.place(0, 118, false);
        due.is("both have rights", y.runOver(0, 5), 0);
        due.is("the first one left its window", y.runOver(0, 1), 0);
        due.is("it has none now", y.item(0, 4), -9);
        due.is("the other has one", y.item(1, 4), 1);
        due.is("pushed, it would have one, but the first has none", y.runOver(0, 3), 1);
        due.is("items()", y.items(), 1);
    }

    /** Items of the programme that are still to be treated count where they are. */
    private static void promise9RightsOfItemsStillThere() {
        RadioWeek x = new RadioWeek();
        withRight(x, LIVE, 10, 0);
        x.addProgramme(SPOT, 10, 0);
        x.addRight(1, 0, 125, 1);
        x.addRight(1, 100, 200, 1);
        x.place(0, 100, false);
        x.place(1, 110, false);
        x.place(1, 120, false);
        due.is("both have rights", x.item(1, 4) * 10 + x.item(2, 4), 12);
        due.is("the first finds the second's right used", x.runOver(0, 6), 1);
        due.is("items()", x.items(), 2);
        itemIs(x, 1, 1, 120, 10, 0);
        due.is("owed(1)", x.owed(1), 1);
    }

    private static void promise10MakeGood() {
        RadioWeek x = new RadioWeek();
        withRight(x, LIVE, 30, 0);
        withRight(x, SPOT, 5, 2);
        x.place(0, 100, true);
        x.place(1, 130, true);
        x.place(1, 135, true);
        x.addBlackout(0, 100, 2);
        x.runOver(0, 10);
        due.is("owed(1)", x.owed(1), 2);
        due.is("the earliest start", x.makeGood(1, 0), 140);
        itemIs(x, 1, 1, 140, 5, 0);
        due.is("owed(1)", x.owed(1), 1);
        due.is("owed(0)", x.owed(0), 0);
        due.is("after", x.makeGood(1, 1000), 1000);
        due.is("owed(1)", x.owed(1), 0);
        due.is("nothing owed", x.makeGood(1, 1000), -2);
        due.is("one act each", x.undo(), 4);
        due.is("owed(1)", x.owed(1), 1);
        due.is("items()", x.items(), 2);
        due.is("undo()", x.undo(), 3);
        due.is("owed(1)", x.owed(1), 2);
        due.is("items()", x.items(), 1);
    }

    private static void promise10Errors() {
        RadioWeek x = new RadioWeek();
        due.is("no programme", x.makeGood(0, 0), -1);
        withRight(x, LIVE, 30, 0);
        x.addProgramme(SPOT, 5, 0);
        x.addRight(1, 130, 135, 1);
        x.addProgramme(FILLER, 1, 0);
        due.is("makeGood(-1, 0)", x.makeGood(-1, 0), -1);
        due.is("makeGood(3, 0)", x.makeGood(3, 0), -1);
        due.is("makeGood(greatest, 0)", x.makeGood(Integer.MAX_VALUE, 0), -1);
        due.is("makeGood(1, -1)", x.makeGood(1, -1), -1);
        due.is("makeGood(1, 10080)", x.makeGood(1, 10080), -1);
        due.is("nothing owed", x.makeGood(1, 0), -2);
        x.place(0, 100, false);
        x.place(1, 130, false);
        x.runOver(0, 1);
        due.is("owed(1)", x.owed(1), 1);
        due.is("another programme", x.makeGood(2, 0), -2);
        due.is("something is on air then", x.makeGood(1, 0), -9);
        x.remove(0);
        due.is("after it", x.makeGood(1, 131), -9);
        due.is("BAD before NONE", x.makeGood(1, 10080), -1);
        due.is("errors keep nothing", x.owed(1), 1);
        for (int i = 0; i < 60; i++) {
            x.place(2, 1000 + i, false);
        }
        due.is("no room", x.makeGood(1, 0), -9);
        x.remove(59);
        due.is("room again", x.makeGood(1, 0), 130);
        due.is("left(1)", x.left(1), 0);
    }
}
