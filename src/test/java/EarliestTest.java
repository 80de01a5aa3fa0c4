/** Promises 7 and 10, earliest() and makeGood(): each test tells its sentence of the document. */
public final class EarliestTest {
    private static final int BAD = -1;
    private static final int STATE = -2;
    private static final int NONE = -9;

    private static final Due due = new Due("EarliestTest");

    public static void main(String[] args) {
        afterItself();
        afterPlus1439();
        atMost10079();
        itsEndIsTheWeeksEnd();
        theLeast();
        behindItems();
        betweenItems();
        behindBlackouts();
        behindBlackoutsOfSomeDays();
        withinRights();
        whereAnotherItemKeepsItsRight();
        allInTheWay();
        withSixtyItems();
        asPlaceWould();
        onePlayLess();
        owedOrNot();
        goodAtTheEarliestStart();
        goodBetween1439();
        goodAndUndone();
        goodFillersDoNotExist();
        due.end();
    }

    private static RadioWeek filler(int length) {
        RadioWeek x = new RadioWeek();
        x.addProgramme(2, length, 0);
        return x;
    }

    private static void is(RadioWeek x, int programme, int after, int want) {
        due.is("earliest(" + programme + ", " + after + ")", x.earliest(programme, after), want);
        if (want >= 0) {
            due.is("mayPlace(" + programme + ", " + want + ")", x.mayPlace(programme, want), 0);
        }
    }

    /** "Returns the least start from after..." */
    private static void afterItself() {
        RadioWeek x = filler(10);
        int[] afters = {0, 1, 1439, 1440, 5000, 10069, 10070};
        for (int after : afters) {
            is(x, 0, after, after);
        }
        is(x, 0, -1, BAD);
    }

    /** "...to after + 1439" */
    private static void afterPlus1439() {
        RadioWeek x = new RadioWeek();
        x.addProgramme(0, 10, 0);
        x.addRight(0, 5000, 5010, 1);
        is(x, 0, 5000, 5000);
        is(x, 0, 4999, 5000);
        is(x, 0, 5000 - 1438, 5000);
        is(x, 0, 5000 - 1439, 5000);
        is(x, 0, 5000 - 1440, NONE);
        is(x, 0, 5001, NONE);
        is(x, 0, 0, NONE);
        RadioWeek y = new RadioWeek();
        y.addProgramme(0, 1, 0);
        y.addRight(0, 1439, 1440, 1);
        is(y, 0, 0, 1439);
        y.undo();
        y.addRight(0, 1440, 1441, 1);
        is(y, 0, 0, NONE);
        is(y, 0, 1, 1440);
        y.undo();
        y.addRight(0, 10079, 10080, 1);
        is(y, 0, 10079 - 1439, 10079);
        is(y, 0, 10079 - 1440, NONE);
        // A live item from 0 to 1439 or 1440.
        RadioWeek z = new RadioWeek();
        z.addProgramme(1, 239, 0);
        z.addProgramme(2, 1, 0);
        z.addRight(0, 0, 10080, 1);
        z.place(0, 0, false);
        for (int i = 0; i < 10; i++) {
            z.runOver(0, 120);
        }
        is(z, 1, 0, 1439);
        z.runOver(0, 1);
        is(z, 1, 0, NONE);
        is(z, 1, 1, 1440);
    }

    /** "(at most 10079)" */
    private static void atMost10079() {
        RadioWeek x = filler(1);
        is(x, 0, 10078, 10078);
        is(x, 0, 10079, 10079);
        is(x, 0, 10080, BAD);
        x.place(0, 10079, false);
        is(x, 0, 10078, 10078);
        is(x, 0, 10079, NONE);
        x.place(0, 10078, false);
        is(x, 0, 10078, NONE);
        is(x, 0, 10077, 10077);
    }

    private static void itsEndIsTheWeeksEnd() {
        int[] lengths = {2, 10, 240};
        for (int length : lengths) {
            RadioWeek x = filler(length);
            is(x, 0, 10080 - length, 10080 - length);
            is(x, 0, 10081 - length, NONE);
            is(x, 0, 10079, NONE);
            x.place(0, 10080 - length, false);
            is(x, 0, 10080 - length, NONE);
            is(x, 0, 10080 - 2 * length, 10080 - 2 * length);
            is(x, 0, 10081 - 2 * length, NONE);
        }
    }

    /** The least of several, not the first that is reached by leaps. */
    private static void theLeast() {
        RadioWeek x = filler(10);
        x.place(0, 100, false);
        x.place(0, 121, false);
        is(x, 0, 95, 110);
        x.remove(1);
        x.place(0, 119, false);
        is(x, 0, 95, 129);
        is(x, 0, 90, 90);
        is(x, 0, 91, 129);
    }

    private static void behindItems() {
        RadioWeek x = filler(10);
        x.place(0, 100, false);
        is(x, 0, 90, 90);
        is(x, 0, 91, 110);
        is(x, 0, 100, 110);
        is(x, 0, 109, 110);
        is(x, 0, 110, 110);
        for (int i = 1; i < 50; i++) {
            x.place(0, 100 + 10 * i, false);
        }
        is(x, 0, 91, 600);
        is(x, 0, 90, 90);
        is(x, 0, 599, 600);
    }

    private static void betweenItems() {
        RadioWeek x = filler(10);
        x.addProgramme(2, 1, 0);
        for (int i = 0; i < 20; i++) {
            x.place(1, 100 + 10 * i, false);
        }
        is(x, 0, 91, 291);
        is(x, 1, 100, 101);
        is(x, 1, 109, 109);
        is(x, 1, 110, 111);
        x.remove(10);
        is(x, 0, 91, 191);
        is(x, 0, 200, 200);
        is(x, 0, 201, 291);
    }

    private static void behindBlackouts() {
        RadioWeek x = filler(10);
        x.addBlackout(100, 200, 0);
        is(x, 0, 90, 90);
        is(x, 0, 91, 200);
        is(x, 0, 199, 200);
        is(x, 0, 200, 200);
        x.addBlackout(150, 250, 0);
        is(x, 0, 91, 250);
        x.addBlackout(259, 260, 0);
        is(x, 0, 91, 260);
        x.addBlackout(120, 140, 0);
        is(x, 0, 91, 260);
        is(x, 0, 1440 + 91, 1440 + 260);
        x.undo();
        x.undo();
        x.addBlackout(260, 261, 0);
        is(x, 0, 91, 250);
        is(x, 0, 251, 261);
    }

    private static void behindBlackoutsOfSomeDays() {
        RadioWeek x = filler(10);
        x.addBlackout(1430, 1440, 0);
        is(x, 0, 1420, 1420);
        is(x, 0, 1421, 1440);
        x.addBlackout(0, 1420, 0);
        is(x, 0, 0, 1420);
        is(x, 0, 1421, 2860);
        is(x, 0, 1420, 1420);
        x.place(0, 1420, false);
        // Ten minutes of the day are light, and those of this day are taken.
        is(x, 0, 1420, NONE);
        is(x, 0, 1421, 2860);
        is(x, 0, 8640, 10060);
        is(x, 0, 10061, NONE);
    }

    private static void withinRights() {
        RadioWeek x = new RadioWeek();
        x.addProgramme(3, 10, 0);
        is(x, 0, 0, NONE);
        x.addRight(0, 500, 520, 1);
        x.addRight(0, 300, 309, 1);
        x.addRight(0, 700, 710, 1);
        is(x, 0, 0, 500);
        is(x, 0, 500, 500);
        is(x, 0, 510, 510);
        is(x, 0, 511, 700);
        is(x, 0, 700, 700);
        is(x, 0, 701, NONE);
        x.addRight(0, 505, 600, 1);
        is(x, 0, 511, 511);
        is(x, 0, 590, 590);
        is(x, 0, 591, 700);
        x.place(0, 700, false);
        is(x, 0, 591, NONE);
        x.place(0, 500, false);
        is(x, 0, 0, 510);
        x.place(0, 510, false);
        is(x, 0, 0, NONE);
    }

    private static void whereAnotherItemKeepsItsRight() {
        RadioWeek x = new RadioWeek();
        x.addProgramme(3, 10, 0);
        x.addRight(0, 100, 600, 1);
        x.place(0, 400, false);
        is(x, 0, 0, NONE);
        x.addRight(0, 300, 330, 1);
        is(x, 0, 0, 300);
        x.undo();
        x.addRight(0, 390, 700, 1);
        is(x, 0, 0, 100);
        is(x, 0, 391, 410);
        is(x, 0, 600, 600);
        is(x, 0, 690, 690);
        is(x, 0, 691, NONE);
    }

    /** An item, then no right, then the dark, then the next window. */
    private static void allInTheWay() {
        RadioWeek x = new RadioWeek();
        x.addProgramme(0, 10, 2);
        x.addProgramme(2, 50, 0);
        x.addRight(0, 100, 165, 1);
        x.addRight(0, 290, 400, 1);
        x.addBlackout(150, 300, 2);
        x.addBlackout(320, 330, 1);
        x.place(1, 100, false);
        x.place(1, 300, false);
        is(x, 0, 0, 350);
        is(x, 0, 350, 350);
        is(x, 0, 390, 390);
        is(x, 0, 391, NONE);
        x.remove(1);
        is(x, 0, 0, 300);
        is(x, 0, 301, 301);
        is(x, 0, 311, 330);
        x.remove(0);
        is(x, 0, 0, 100);
        is(x, 0, 140, 140);
        is(x, 0, 141, 300);
    }

    /** FULL, so that nothing is possible. */
    private static void withSixtyItems() {
        RadioWeek x = filler(1);
        for (int i = 0; i < 59; i++) {
            x.place(0, 2 * i, false);
        }
        is(x, 0, 0, 1);
        is(x, 0, 116, 117);
        x.place(0, 5000, false);
        is(x, 0, 0, NONE);
        is(x, 0, 10079, NONE);
        x.remove(59);
        is(x, 0, 10079, 10079);
    }

    /** "at which placing it is possible": as trying one start after the other finds; no window ends after 260. */
    private static void asPlaceWould() {
        for (int after = 0; after <= 300; after++) {
            RadioWeek x = new RadioWeek();
            x.addProgramme(0, 7, 1);
            x.addProgramme(2, 3, 0);
            x.addRight(0, 10, 50, 1);
            x.addRight(0, 30, 170, 1);
            x.addRight(0, 200, 260, 1);
            x.addBlackout(60, 90, 1);
            x.addBlackout(100, 101, 0);
            x.place(1, 20, false);
            x.place(0, 130, false);
            x.place(1, 150, false);
            int least = NONE;
            for (int start = after; start <= after + 300 && least == NONE; start++) {
                least = x.mayPlace(0, start) == 0 ? start : NONE;
            }
            is(x, 0, after, least);
        }
    }

    /** A spot of five minutes is owed so many times. */
    private static RadioWeek owed(int times) {
        RadioWeek x = new RadioWeek();
        x.addProgramme(1, 30, 0);
        x.addProgramme(3, 5, 0);
        x.addProgramme(2, 5, 0);
        x.addRight(0, 0, 10080, 1);
        x.addRight(1, 0, 5000, 50);
        x.place(0, 100, false);
        for (int i = 0; i < times; i++) {
            x.place(1, 130 + 5 * i, true);
        }
        x.runOver(0, 120);
        return x;
    }

    /** "and one play of it less is owed" */
    private static void onePlayLess() {
        for (int times = 0; times <= 4; times++) {
            RadioWeek x = owed(times);
            for (int more = times; more > 0; more--) {
                due.is("owed(1)", x.owed(1), more);
                due.is("makeGood(1, 300)", x.makeGood(1, 300), 300 + 5 * (times - more));
                due.is("items()", x.items(), 2 + times - more);
            }
            due.is("owed(1)", x.owed(1), 0);
            due.is("no more", x.makeGood(1, 300), STATE);
            due.is("items()", x.items(), 1 + times);
            due.is("left(1)", x.left(1), 50 - times);
        }
    }

    /** "STATE if no play of it is owed": of it, not of another programme. */
    private static void owedOrNot() {
        RadioWeek x = owed(1);
        due.is("the live one", x.makeGood(0, 0), STATE);
        due.is("the filler", x.makeGood(2, 0), STATE);
        due.is("no programme", x.makeGood(3, 0), BAD);
        due.is("the spot", x.makeGood(1, 0), 0);
        due.is("the spot again", x.makeGood(1, 0), STATE);
        RadioWeek y = owed(0);
        y.place(1, 300, false);
        y.remove(1);
        due.is("a spot that was removed", y.makeGood(1, 0), STATE);
    }

    /** "the programme is placed, not fixed, at the earliest possible start" */
    private static void goodAtTheEarliestStart() {
        RadioWeek x = owed(3);
        due.is("before the live item", x.makeGood(1, 95), 95);
        due.is("behind the live item", x.makeGood(1, 96), 250);
        due.is("at its right's end", x.makeGood(1, 4995), 4995);
        int[][] want = {{1, 95, 5, 0, 1}, {0, 100, 150, 0, 0}, {1, 250, 5, 0, 1}, {1, 4995, 5, 0, 1}};
        for (int i = 0; i < want.length; i++) {
            for (int what = 0; what <= 4; what++) {
                due.is("item(" + i + ", " + what + ")", x.item(i, what), want[i][what]);
            }
        }
        RadioWeek y = owed(1);
        y.addBlackout(250, 300, 0);
        due.is("behind a blackout", y.makeGood(1, 96), 300);
    }

    /** "NONE if earliest() finds no start" */
    private static void goodBetween1439() {
        RadioWeek x = owed(1);
        due.is("out of its right", x.makeGood(1, 4996), NONE);
        due.is("out of its right", x.makeGood(1, 10079), NONE);
        due.is("owed(1)", x.owed(1), 1);
        x.addRight(1, 7000, 7005, 1);
        due.is("after + 1440", x.makeGood(1, 7000 - 1440), NONE);
        due.is("after + 1439", x.makeGood(1, 7000 - 1439), 7000);
        due.is("owed(1)", x.owed(1), 0);
        due.is("the right that it uses", x.item(1, 4), 2);
    }

    private static void goodAndUndone() {
        RadioWeek x = owed(2);
        long before = x.fingerprint();
        due.is("makeGood(1, 300)", x.makeGood(1, 300), 300);
        due.is("undo()", x.undo(), 4);
        due.is("fingerprint()", x.fingerprint(), before);
        due.is("owed(1)", x.owed(1), 2);
        due.is("elsewhere", x.makeGood(1, 400), 400);
        due.is("owed(1)", x.owed(1), 1);
    }

    /** Dropped items of other kinds are not owed and can't be made good. */
    private static void goodFillersDoNotExist() {
        RadioWeek x = owed(0);
        x.place(2, 250, true);
        due.is("a filler is dropped", x.runOver(0, 5), 1);
        due.is("owed(2)", x.owed(2), 0);
        due.is("makeGood(2, 0)", x.makeGood(2, 0), STATE);
    }
}
