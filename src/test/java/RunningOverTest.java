/** The section RUNNING OVER and promise 9: each test tells its sentence of the document. */
public final class RunningOverTest {
    private static final int BAD = -1;
    private static final int STATE = -2;
    private static final int CLASH = -4;
    private static final int NONE = -9;

    private static final int RECORDED = 0;
    private static final int LIVE = 1;
    private static final int FILLER = 2;
    private static final int SPOT = 3;

    private static final Due due = new Due("RunningOverTest");

    public static void main(String[] args) {
        nothingFollowsOneFollows();
        liveAlone();
        oneMinuteAnd120Minutes();
        onlyItsLengthChanges();
        againAndAgain();
        untilTheWeeksEnd();
        untilOneStartsAtTheNewEnd();
        whatIsBeforeStays();
        fillersAreDropped();
        whatStartsAtTheEndOfADroppedOneStays();
        fixedOnesKeepTheirEnd();
        fixedOnesThatEndByThen();
        afterACutTheNextStays();
        cutAgain();
        aCutOneIsNotAskedForBlackoutsAndRights();
        othersArePushed();
        gapsSoakUp();
        pushedUpToTheWeeksEnd();
        pushedUpToABlackout();
        pushedOutOfTheDark();
        pushedPastABlackout();
        theRatingOfThePushedOne();
        pushedUpToTheWindowsEnd();
        pushedIntoAnotherWindow();
        pushedWhereAnotherNeedsTheRight();
        pushedWithRightsBrokenBefore();
        rightsOfOtherProgrammes();
        stillToBeTreatedWhereTheyAre();
        ofTheSameStart();
        treatedWhereTheyAreNow();
        lengthsAreThoseOfTheItems();
        spotsAreOwed();
        othersAreNotOwed();
        allAtOnce();
        undone();
        due.end();
    }

    /** Live of 30, recorded of 10, filler of 5, spot of 2; each but the filler has a right for all the week. */
    private static RadioWeek four() {
        RadioWeek x = new RadioWeek();
        int[][] programmes = {{LIVE, 30}, {RECORDED, 10}, {FILLER, 5}, {SPOT, 2}};
        for (int p = 0; p < 4; p++) {
            x.addProgramme(programmes[p][0], programmes[p][1], 1);
            x.addRight(p, 0, 10080, 50);
        }
        return x;
    }

    /** Rows of programme, start, length and whether it is fixed. */
    private static void itemsAre(String when, RadioWeek x, int[]... items) {
        due.is(when + ": items()", x.items(), items.length);
        for (int i = 0; i < items.length; i++) {
            for (int what = 0; what < 4; what++) {
                due.is(when + ": item(" + i + ", " + what + ")", x.item(i, what), items[i][what]);
            }
        }
    }

    private static int[] row(int programme, int start, int length, int fixed) {
        return new int[] {programme, start, length, fixed};
    }

    private static void nothingFollowsOneFollows() {
        RadioWeek x = four();
        due.is("no item", x.runOver(0, 1), BAD);
        x.place(0, 100, false);
        due.is("nothing follows", x.runOver(0, 120), 0);
        itemsAre("nothing follows", x, row(0, 100, 150, 0));
        x.place(2, 250, false);
        due.is("one follows", x.runOver(0, 1), 1);
        itemsAre("one followed", x, row(0, 100, 151, 0));
    }

    /** "STATE if its programme is not live" */
    private static void liveAlone() {
        for (int kind = 0; kind <= 3; kind++) {
            RadioWeek x = new RadioWeek();
            x.addProgramme(kind, 10, 0);
            x.addRight(0, 0, 10080, 1);
            x.place(0, 100, kind % 2 == 0);
            due.is("kind " + kind, x.runOver(0, 5), kind == LIVE ? 0 : STATE);
            due.is("the length of kind " + kind, x.item(0, 2), kind == LIVE ? 15 : 10);
        }
    }

    /** "minutes: 1 to 120" */
    private static void oneMinuteAnd120Minutes() {
        RadioWeek x = four();
        x.place(0, 100, false);
        due.is("0", x.runOver(0, 0), BAD);
        due.is("1", x.runOver(0, 1), 0);
        due.is("the length", x.item(0, 2), 31);
        due.is("120", x.runOver(0, 120), 0);
        due.is("the length", x.item(0, 2), 151);
        due.is("121", x.runOver(0, 121), BAD);
        due.is("-1", x.runOver(0, -1), BAD);
        due.is("the length", x.item(0, 2), 151);
    }

    private static void onlyItsLengthChanges() {
        for (int fixed = 0; fixed <= 1; fixed++) {
            RadioWeek x = four();
            x.place(0, 100, fixed == 1);
            x.runOver(0, 7);
            itemsAre("fixed " + fixed, x, row(0, 100, 37, fixed));
            due.is("its last minute", x.onAir(136), 0);
            due.is("after it", x.onAir(137), NONE);
            due.is("minutes(1, 0, 10080)", x.minutes(1, 0, 10080), 37);
        }
    }

    private static void againAndAgain() {
        RadioWeek x = four();
        x.place(0, 0, false);
        for (int i = 1; i <= 83; i++) {
            due.is("run over " + i, x.runOver(0, 120), 0);
            due.is("its length", x.item(0, 2), 30 + 120 * i);
        }
        due.is("60 more would be too many", x.runOver(0, 91), CLASH);
        due.is("all of the week", x.runOver(0, 90), 0);
        due.is("its length", x.item(0, 2), 10080);
        due.is("a minute more", x.runOver(0, 1), CLASH);
        due.is("no silence", x.silence(0, 10080), NONE);
    }

    /** "CLASH if it would end after 10080" */
    private static void untilTheWeeksEnd() {
        for (int minutes = 1; minutes <= 120; minutes += 17) {
            RadioWeek x = four();
            x.place(0, 10050 - minutes, false);
            due.is("a minute too many", x.runOver(0, minutes + 1), minutes == 120 ? BAD : CLASH);
            due.is("up to the end", x.runOver(0, minutes), 0);
            due.is("onAir(10079)", x.onAir(10079), 0);
            due.is("then no minute", x.runOver(0, 1), CLASH);
        }
        RadioWeek y = four();
        y.place(0, 10050, false);
        due.is("it ends there already", y.runOver(0, 1), CLASH);
        RadioWeek z = four();
        z.place(0, 10000, false);
        z.place(1, 10030, true);
        z.place(1, 10040, false);
        z.place(3, 10050, false);
        z.place(3, 10078, true);
        due.is("up to the end, all that follow are dropped", z.runOver(0, 50), 4);
        itemsAre("alone", z, row(0, 10000, 80, 0));
        due.is("owed(3)", z.owed(3), 2);
    }

    /** "until one starts at e or later" */
    private static void untilOneStartsAtTheNewEnd() {
        int[] programmes = {1, 2, 3, 0};
        for (int p : programmes) {
            for (int fixed = 0; fixed <= 1; fixed++) {
                RadioWeek x = four();
                x.place(0, 100, false);
                x.place(p, 150, fixed == 1);
                int length = x.item(1, 2);
                x.runOver(0, 19);
                itemsAre("a minute before it", x, row(0, 100, 49, 0), row(p, 150, length, fixed));
                due.is("up to its start", x.runOver(0, 1), 0);
                itemsAre("up to its start", x, row(0, 100, 50, 0), row(p, 150, length, fixed));
                due.is("into it", x.runOver(0, 1), p == 2 ? 1 : 0);
                if (p == 2) {
                    itemsAre("a filler", x, row(0, 100, 51, 0));
                } else {
                    itemsAre("no filler", x, row(0, 100, 51, 0), row(p, 151, fixed == 1 ? length - 1 : length, fixed));
                }
            }
        }
    }

    /** "the following items" */
    private static void whatIsBeforeStays() {
        RadioWeek x = four();
        x.place(2, 90, false);
        x.place(1, 80, true);
        x.place(3, 95, false);
        x.place(0, 100, false);
        x.place(2, 130, false);
        due.is("runOver(3, 120)", x.runOver(3, 120), 1);
        itemsAre("before", x, row(1, 80, 10, 1), row(2, 90, 5, 0), row(3, 95, 2, 0), row(0, 100, 150, 0));
    }

    /** "a filler is dropped, also a fixed one" */
    private static void fillersAreDropped() {
        for (int fixed = 0; fixed <= 1; fixed++) {
            for (int minutes = 1; minutes <= 6; minutes++) {
                RadioWeek x = four();
                x.place(0, 100, false);
                x.place(2, 130, fixed == 1);
                due.is("a filler of 5, " + minutes + " minutes", x.runOver(0, minutes), 1);
                itemsAre("a filler of 5", x, row(0, 100, 30 + minutes, 0));
                due.is("owed(2)", x.owed(2), 0);
            }
        }
    }

    /** A dropped item does not change e. */
    private static void whatStartsAtTheEndOfADroppedOneStays() {
        RadioWeek x = four();
        x.place(0, 100, false);
        x.place(2, 130, false);
        x.place(1, 135, false);
        due.is("five minutes", x.runOver(0, 5), 1);
        itemsAre("five minutes", x, row(0, 100, 35, 0), row(1, 135, 10, 0));
        x.undo();
        due.is("six minutes", x.runOver(0, 6), 1);
        itemsAre("six minutes", x, row(0, 100, 36, 0), row(1, 136, 10, 0));
        RadioWeek y = four();
        y.place(0, 100, false);
        y.place(2, 130, true);
        y.place(2, 135, false);
        y.place(2, 140, true);
        due.is("ten minutes", y.runOver(0, 10), 2);
        itemsAre("ten minutes", y, row(0, 100, 40, 0), row(2, 140, 5, 1));
    }

    /** "a fixed item that ends after e starts at e then and keeps its end" */
    private static void fixedOnesKeepTheirEnd() {
        for (int minutes = 1; minutes <= 9; minutes++) {
            RadioWeek x = four();
            x.place(0, 100, false);
            x.place(1, 130, true);
            due.is("a fixed one of 10, " + minutes + " minutes", x.runOver(0, minutes), 0);
            itemsAre("cut", x, row(0, 100, 30 + minutes, 0), row(1, 130 + minutes, 10 - minutes, 1));
            due.is("its last minute", x.onAir(139), 1);
            due.is("after it", x.onAir(140), NONE);
        }
    }

    /** "a fixed item that does not end after e is dropped" */
    private static void fixedOnesThatEndByThen() {
        int[] programmes = {0, 1, 3};
        for (int p : programmes) {
            RadioWeek x = four();
            x.place(0, 100, false);
            x.place(p, 130, true);
            int length = x.item(1, 2);
            due.is("programme " + p + ", all but a minute", x.runOver(0, length - 1), 0);
            due.is("a minute is left", x.item(1, 2), 1);
            x.undo();
            due.is("programme " + p + ", all", x.runOver(0, length), 1);
            due.is("nothing is left", x.items(), 1);
            due.is("owed", x.owed(p), p == 3 ? 1 : 0);
            x.undo();
            due.is("programme " + p + ", more than all", x.runOver(0, length + 1), 1);
            due.is("nothing is left", x.items(), 1);
        }
    }

    /** "e becomes its end": nothing that starts there or later is touched. */
    private static void afterACutTheNextStays() {
        int[] programmes = {0, 1, 2, 3};
        for (int p : programmes) {
            RadioWeek x = four();
            x.place(0, 100, false);
            x.place(1, 130, true);
            x.place(p, 140, false);
            int length = x.item(2, 2);
            due.is("the one between is cut", x.runOver(0, 9), 0);
            itemsAre("the next one stays", x, row(0, 100, 39, 0), row(1, 139, 1, 1), row(p, 140, length, 0));
        }
    }

    /** A cut item is cut again, from the length that it has now. */
    private static void cutAgain() {
        RadioWeek x = four();
        x.place(0, 100, false);
        x.place(0, 130, true);
        x.place(1, 160, false);
        due.is("cut", x.runOver(0, 10), 0);
        itemsAre("cut", x, row(0, 100, 40, 0), row(0, 140, 20, 1), row(1, 160, 10, 0));
        due.is("cut again", x.runOver(0, 15), 0);
        itemsAre("cut again", x, row(0, 100, 55, 0), row(0, 155, 5, 1), row(1, 160, 10, 0));
        due.is("the cut one runs over itself", x.runOver(1, 3), 0);
        itemsAre("it runs over", x, row(0, 100, 55, 0), row(0, 155, 8, 1), row(1, 163, 10, 0));
        due.is("it is dropped", x.runOver(0, 8), 1);
        itemsAre("it is dropped", x, row(0, 100, 63, 0), row(1, 163, 10, 0));
    }

    /** Only "any other item" is asked for blackouts and rights. */
    private static void aCutOneIsNotAskedForBlackoutsAndRights() {
        RadioWeek x = new RadioWeek();
        x.addProgramme(LIVE, 30, 0);
        x.addProgramme(LIVE, 10, 3);
        x.addRight(0, 0, 10080, 1);
        x.addRight(1, 130, 140, 1);
        x.place(0, 100, false);
        x.place(1, 130, true);
        x.addBlackout(0, 1440, 3);
        due.is("a fixed one in the dark", x.runOver(0, 5), 0);
        due.is("it is cut", x.item(1, 2), 5);
        x.runOver(1, 20);
        due.is("it has no right now", x.item(1, 4), NONE);
        due.is("a fixed one without a right", x.runOver(0, 5), 0);
        itemsAre("it is cut", x, row(0, 100, 40, 0), row(1, 140, 20, 1));
    }

    /** "any other item starts at e then with its length unchanged, and e becomes its end" */
    private static void othersArePushed() {
        int[] programmes = {0, 1, 3};
        for (int p : programmes) {
            RadioWeek x = four();
            x.place(0, 100, false);
            x.place(p, 130, false);
            int length = x.item(1, 2);
            x.place(1, 130 + length, false);
            x.place(1, 140 + length, true);
            due.is("one minute, programme " + p, x.runOver(0, 1), 0);
            itemsAre("one minute", x, row(0, 100, 31, 0), row(p, 131, length, 0), row(1, 131 + length, 10, 0),
                    row(1, 141 + length, 9, 1));
            due.is("nine more, programme " + p, x.runOver(0, 9), 1);
            itemsAre("ten minutes", x, row(0, 100, 40, 0), row(p, 140, length, 0), row(1, 140 + length, 10, 0));
        }
    }

    /** A gap ends it, as the item after it starts at e or later. */
    private static void gapsSoakUp() {
        RadioWeek x = four();
        x.place(0, 100, false);
        x.place(1, 135, false);
        x.place(1, 148, false);
        x.place(2, 165, false);
        due.is("five minutes", x.runOver(0, 5), 0);
        itemsAre("the first gap", x, row(0, 100, 35, 0), row(1, 135, 10, 0), row(1, 148, 10, 0), row(2, 165, 5, 0));
        due.is("three more", x.runOver(0, 3), 0);
        itemsAre("the second gap", x, row(0, 100, 38, 0), row(1, 138, 10, 0), row(1, 148, 10, 0), row(2, 165, 5, 0));
        due.is("seven more", x.runOver(0, 7), 0);
        itemsAre("the third gap", x, row(0, 100, 45, 0), row(1, 145, 10, 0), row(1, 155, 10, 0), row(2, 165, 5, 0));
        due.is("one more", x.runOver(0, 1), 1);
        itemsAre("no gap", x, row(0, 100, 46, 0), row(1, 146, 10, 0), row(1, 156, 10, 0));
    }

    /** "if it ends at most at 10080" */
    private static void pushedUpToTheWeeksEnd() {
        int[] programmes = {0, 1, 3};
        for (int p : programmes) {
            RadioWeek x = four();
            x.place(0, 10000, false);
            x.place(p, 10030, false);
            int length = x.item(1, 2);
            int room = 50 - length;
            due.is("programme " + p + " up to the end", x.runOver(0, room), 0);
            due.is("its start", x.item(1, 1), 10080 - length);
            due.is("onAir(10079)", x.onAir(10079), 1);
            due.is("a minute more", x.runOver(0, 1), 1);
            due.is("items()", x.items(), 1);
            due.is("owed", x.owed(p), p == 3 ? 1 : 0);
        }
        RadioWeek y = four();
        y.place(0, 10000, false);
        y.place(1, 10030, false);
        y.place(3, 10060, false);
        due.is("the first does not fit, the second does", y.runOver(0, 45), 1);
        itemsAre("the second", y, row(0, 10000, 75, 0), row(3, 10075, 2, 0));
        y.undo();
        due.is("the second stays where it is", y.runOver(0, 30), 0);
        itemsAre("both", y, row(0, 10000, 60, 0), row(1, 10060, 10, 0), row(3, 10070, 2, 0));
    }

    /** "breaks no blackout" */
    private static void pushedUpToABlackout() {
        RadioWeek x = four();
        x.place(0, 100, false);
        x.place(1, 130, false);
        x.addBlackout(145, 150, 1);
        due.is("up to it", x.runOver(0, 5), 0);
        itemsAre("up to it", x, row(0, 100, 35, 0), row(1, 135, 10, 0));
        due.is("into it", x.runOver(0, 1), 1);
        itemsAre("into it", x, row(0, 100, 36, 0));
        RadioWeek y = four();
        y.place(0, 6 * 1440 + 100, false);
        y.place(3, 6 * 1440 + 130, false);
        y.addBlackout(137, 150, 0);
        due.is("up to it on the last day", y.runOver(0, 5), 0);
        due.is("its start", y.item(1, 1), 6 * 1440 + 135);
        due.is("into it on the last day", y.runOver(0, 1), 1);
        due.is("owed(3)", y.owed(3), 1);
    }

    /** It may be in the dark before: only where it starts then counts. */
    private static void pushedOutOfTheDark() {
        RadioWeek x = four();
        x.place(0, 100, false);
        x.place(1, 130, false);
        x.addBlackout(130, 133, 0);
        due.is("in the dark", x.broken(), 1);
        due.is("out of it", x.runOver(0, 3), 0);
        itemsAre("out of it", x, row(0, 100, 33, 0), row(1, 133, 10, 0));
        due.is("it is the live one now", x.broken(), 1);
        x.undo();
        due.is("still in it", x.runOver(0, 2), 1);
        itemsAre("still in it", x, row(0, 100, 32, 0));
    }

    private static void pushedPastABlackout() {
        RadioWeek x = four();
        x.place(0, 100, false);
        x.place(1, 130, false);
        x.addBlackout(145, 150, 0);
        due.is("past it", x.runOver(0, 20), 0);
        itemsAre("past it", x, row(0, 100, 50, 0), row(1, 150, 10, 0));
        x.undo();
        due.is("its last minute", x.runOver(0, 19), 1);
        itemsAre("its last minute", x, row(0, 100, 49, 0));
        RadioWeek y = four();
        y.place(0, 1440 - 40, false);
        y.place(1, 1440 - 10, false);
        y.addBlackout(0, 1, 0);
        due.is("over midnight", y.runOver(0, 1), 1);
    }

    private static void theRatingOfThePushedOne() {
        RadioWeek x = new RadioWeek();
        x.addProgramme(LIVE, 30, 3);
        for (int rating = 0; rating <= 3; rating++) {
            x.addProgramme(RECORDED, 10, rating);
        }
        for (int p = 0; p < 5; p++) {
            x.addRight(p, 0, 10080, 1);
        }
        x.place(0, 100, false);
        for (int p = 1; p < 5; p++) {
            x.place(p, 120 + 10 * p, false);
        }
        x.addBlackout(0, 1440, 2);
        due.is("rating 2 is dropped, and rating 3 need not be pushed", x.runOver(0, 1), 1);
        itemsAre("one gap is enough", x, row(0, 100, 31, 0), row(1, 131, 10, 0), row(2, 141, 10, 0), row(4, 160, 10, 0));
        due.is("rating 3 is dropped, too", x.runOver(0, 10), 1);
        itemsAre("ratings 0 and 1", x, row(0, 100, 41, 0), row(1, 141, 10, 0), row(2, 151, 10, 0));
    }

    /** "and the rights of its programme are not broken then" */
    private static void pushedUpToTheWindowsEnd() {
        RadioWeek x = four();
        x.addProgramme(SPOT, 5, 0);
        x.addRight(4, 130, 145, 1);
        x.place(0, 100, false);
        x.place(4, 130, false);
        due.is("up to its end", x.runOver(0, 10), 0);
        itemsAre("up to its end", x, row(0, 100, 40, 0), row(4, 140, 5, 0));
        due.is("over its end", x.runOver(0, 1), 1);
        itemsAre("over its end", x, row(0, 100, 41, 0));
        due.is("owed(4)", x.owed(4), 1);
        due.is("left(4)", x.left(4), 1);
    }

    private static void pushedIntoAnotherWindow() {
        RadioWeek x = four();
        x.addProgramme(SPOT, 5, 0);
        x.addRight(4, 130, 135, 1);
        x.addRight(4, 135, 140, 1);
        x.place(0, 100, false);
        x.place(4, 130, false);
        due.is("it uses the first", x.item(1, 4), 4);
        due.is("into the second", x.runOver(0, 5), 0);
        due.is("it uses the second", x.item(1, 4), 5);
        x.undo();
        due.is("between both", x.runOver(0, 4), 1);
        due.is("owed(4)", x.owed(4), 1);
    }

    /** "(for any item of it...)": also if a later one would find none then. */
    private static void pushedWhereAnotherNeedsTheRight() {
        RadioWeek x = four();
        x.addProgramme(RECORDED, 5, 0);
        x.addRight(4, 0, 140, 1);
        x.addRight(4, 0, 5000, 1);
        x.place(0, 100, false);
        x.place(4, 130, false);
        x.place(4, 1000, false);
        due.is("within the first window", x.runOver(0, 5), 0);
        due.is("it would take the later one's right", x.runOver(0, 1), 1);
        itemsAre("the later one stays", x, row(0, 100, 36, 0), row(4, 1000, 5, 0));
    }

    /** "also for one that found no right before" */
    private static void pushedWithRightsBrokenBefore() {
        RadioWeek x = new RadioWeek();
        x.addProgramme(LIVE, 10, 0);
        x.addProgramme(LIVE, 20, 0);
        x.addRight(0, 100, 110, 1);
        x.addRight(0, 200, 1000, 5);
        x.addRight(1, 0, 10080, 5);
        x.place(0, 100, false);
        x.place(1, 200, false);
        x.place(0, 220, false);
        x.place(1, 230, false);
        due.is("the first one leaves its window", x.runOver(0, 1), 0);
        due.is("it has no right", x.item(0, 4), NONE);
        due.is("far away from it, the second has", x.item(2, 4), 1);
        due.is("but is not pushed", x.runOver(1, 1), 1);
        itemsAre("one less", x, row(0, 100, 11, 0), row(1, 200, 21, 0), row(1, 230, 20, 0));
        x.undo();
        x.undo();
        due.is("with both rights it is pushed", x.runOver(1, 1), 0);
        itemsAre("pushed", x, row(0, 100, 10, 0), row(1, 200, 21, 0), row(0, 221, 10, 0), row(1, 231, 20, 0));
    }

    private static void rightsOfOtherProgrammes() {
        RadioWeek x = new RadioWeek();
        x.addProgramme(LIVE, 10, 0);
        x.addProgramme(RECORDED, 10, 0);
        x.addProgramme(SPOT, 10, 0);
        x.addRight(0, 100, 110, 1);
        x.addRight(1, 110, 130, 1);
        x.addRight(2, 0, 10080, 1);
        x.place(0, 100, false);
        x.place(1, 110, false);
        x.place(2, 120, false);
        due.is("the live one leaves its window, others do not", x.runOver(0, 10), 0);
        itemsAre("both are pushed", x, row(0, 100, 20, 0), row(1, 120, 10, 0), row(2, 130, 10, 0));
        due.is("the second leaves its window", x.runOver(0, 1), 1);
        itemsAre("the third is there already", x, row(0, 100, 21, 0), row(2, 130, 10, 0));
    }

    /** "with the items of this programme that are still to be treated where they are" */
    private static void stillToBeTreatedWhereTheyAre() {
        RadioWeek x = new RadioWeek();
        x.addProgramme(LIVE, 10, 0);
        x.addProgramme(SPOT, 10, 0);
        x.addRight(0, 0, 10080, 5);
        x.addRight(1, 0, 135, 1);
        x.addRight(1, 0, 200, 1);
        x.place(0, 100, false);
        x.place(1, 110, false);
        x.place(1, 120, false);
        due.is("the first uses the one that ends first", x.item(1, 4), 1);
        due.is("the second uses the other", x.item(2, 4), 2);
        // At 122 the first comes after the second, which is still at 120 and uses the one that ends first.
        due.is("pushed, then the next one", x.runOver(0, 12), 0);
        itemsAre("both are pushed", x, row(0, 100, 22, 0), row(1, 122, 10, 0), row(1, 132, 10, 0));
        x.undo();
        RadioWeek y = new RadioWeek();
        y.addProgramme(LIVE, 10, 0);
        y.addProgramme(RECORDED, 5, 0);
        y.addRight(0, 0, 10080, 5);
        y.addRight(1, 0, 117, 1);
        y.addRight(1, 0, 126, 1);
        y.place(0, 100, false);
        y.place(1, 110, false);
        y.place(1, 120, false);
        // At 113 the first needs the right of the second, which is still at 120.
        due.is("the first is dropped", y.runOver(0, 3), 1);
        itemsAre("the second stays", y, row(0, 100, 13, 0), row(1, 120, 5, 0));
        y.undo();
        due.is("two minutes are possible", y.runOver(0, 2), 0);
        itemsAre("the first is pushed", y, row(0, 100, 12, 0), row(1, 112, 5, 0), row(1, 120, 5, 0));
    }

    /**
     * "of items with the same start the one that is pushed goes first": whichever goes first, together they
     * use the same rights, so that no answer tells which it was; both must count, each with its own end.
     */
    private static void ofTheSameStart() {
        int[][] windows = {{130, 160}, {130, 155}, {129, 160}, {160, 160}, {160, 130}, {200, 160}};
        int[] dropped = {0, 1, 1, 0, 0, 0};
        for (int w = 0; w < windows.length; w++) {
            RadioWeek x = new RadioWeek();
            x.addProgramme(LIVE, 10, 0);
            x.addProgramme(LIVE, 10, 0);
            x.addRight(0, 0, 10080, 1);
            x.addRight(1, 0, windows[w][0], 1);
            x.addRight(1, 0, windows[w][1], 1);
            x.place(0, 100, false);
            x.place(1, 110, false);
            x.place(1, 120, false);
            x.runOver(2, 20);
            String rights = "rights to " + windows[w][0] + " and " + windows[w][1];
            itemsAre(rights + ", before", x, row(0, 100, 10, 0), row(1, 110, 10, 0), row(1, 120, 30, 0));
            due.is(rights + ": the first comes to the second's start", x.runOver(0, 10), dropped[w]);
            if (dropped[w] == 0) {
                itemsAre(rights, x, row(0, 100, 20, 0), row(1, 120, 10, 0), row(1, 130, 30, 0));
            } else if (windows[w][0] == 130) {
                itemsAre(rights + ": the second is dropped", x, row(0, 100, 20, 0), row(1, 120, 10, 0));
            } else {
                itemsAre(rights + ": the first is dropped", x, row(0, 100, 20, 0), row(1, 120, 30, 0));
            }
        }
    }

    /** Those that were treated count where they are now, and those that were dropped not at all. */
    private static void treatedWhereTheyAreNow() {
        RadioWeek x = new RadioWeek();
        x.addProgramme(LIVE, 10, 0);
        x.addProgramme(RECORDED, 5, 0);
        x.addRight(0, 0, 10080, 5);
        x.addRight(1, 100, 115, 1);
        x.addRight(1, 100, 128, 1);
        x.place(0, 100, false);
        x.place(1, 110, false);
        x.place(1, 115, false);
        due.is("the dropped one's right is free for the next", x.runOver(0, 8), 1);
        itemsAre("the next", x, row(0, 100, 18, 0), row(1, 118, 5, 0));
        due.is("the right that it uses", x.item(1, 4), 2);
        RadioWeek y = new RadioWeek();
        y.addProgramme(LIVE, 10, 0);
        y.addProgramme(RECORDED, 5, 0);
        y.addRight(0, 0, 10080, 5);
        y.addRight(1, 110, 115, 1);
        y.addRight(1, 112, 200, 1);
        y.addRight(1, 112, 120, 1);
        y.place(0, 100, false);
        y.place(1, 110, false);
        y.place(1, 115, false);
        due.is("the first takes another right, the second, too", y.runOver(0, 3), 0);
        itemsAre("both are pushed", y, row(0, 100, 13, 0), row(1, 113, 5, 0), row(1, 118, 5, 0));
        due.is("the first one's right", y.item(1, 4), 3);
        due.is("the second one's right", y.item(2, 4), 2);
    }

    /** The end of each item is its own: a longer and a shorter one of the same programme are not mixed up. */
    private static void lengthsAreThoseOfTheItems() {
        RadioWeek x = new RadioWeek();
        x.addProgramme(LIVE, 10, 0);
        x.addProgramme(LIVE, 10, 0);
        x.addRight(0, 0, 10080, 5);
        x.addRight(1, 0, 160, 1);
        x.addRight(1, 0, 128, 1);
        x.place(0, 100, false);
        x.place(1, 110, false);
        x.place(1, 120, false);
        x.runOver(2, 30);
        itemsAre("a longer one after a shorter one", x, row(0, 100, 10, 0), row(1, 110, 10, 0), row(1, 120, 40, 0));
        // At 121 the pushed one ends at 131, and the only right for that is the longer one's.
        due.is("the shorter one is pushed behind the longer one's start", x.runOver(0, 11), 2);
        itemsAre("neither finds a right", x, row(0, 100, 21, 0));
        x.undo();
        due.is("the shorter one fits, the longer one does not", x.runOver(0, 8), 1);
        itemsAre("the shorter one", x, row(0, 100, 18, 0), row(1, 118, 10, 0));
    }

    /** "For each spot that is dropped (fixed or not), one play of its programme is owed." */
    private static void spotsAreOwed() {
        for (int spots = 0; spots <= 5; spots++) {
            RadioWeek x = four();
            x.addProgramme(SPOT, 2, 0);
            x.addRight(4, 0, 10080, 50);
            x.place(0, 100, false);
            for (int i = 0; i < spots; i++) {
                x.place(3, 130 + 4 * i, true);
                x.place(4, 132 + 4 * i, true);
            }
            due.is(spots + " of each", x.runOver(0, 30), 2 * spots);
            due.is("owed(3)", x.owed(3), spots);
            due.is("owed(4)", x.owed(4), spots);
            due.is("owed(1)", x.owed(1), 0);
        }
        RadioWeek y = four();
        y.place(0, 100, false);
        y.place(3, 130, false);
        y.place(3, 132, true);
        y.addBlackout(0, 1440, 0);
        due.is("one not fixed, one fixed", y.runOver(0, 4), 2);
        due.is("owed(3)", y.owed(3), 2);
    }

    private static void othersAreNotOwed() {
        RadioWeek x = four();
        x.place(0, 100, false);
        x.place(0, 130, true);
        x.place(1, 160, true);
        x.place(2, 170, false);
        x.place(2, 175, true);
        x.place(1, 180, false);
        x.addBlackout(0, 1440, 1);
        due.is("all are dropped", x.runOver(0, 81), 5);
        for (int p = 0; p < 4; p++) {
            due.is("owed(" + p + ")", x.owed(p), 0);
        }
        RadioWeek y = four();
        y.place(0, 100, false);
        y.place(3, 130, true);
        y.place(3, 140, false);
        y.runOver(0, 1);
        due.is("a spot that is cut is not owed", y.owed(3), 0);
        y.runOver(0, 10);
        due.is("one is dropped, one is pushed", y.owed(3), 1);
        due.is("items()", y.items(), 2);
    }

    /** "Returns the number of items that were dropped" */
    private static void allAtOnce() {
        RadioWeek x = four();
        x.place(0, 100, true);
        x.place(2, 130, false);
        x.place(3, 135, false);
        x.place(3, 137, true);
        x.place(1, 140, true);
        x.place(2, 150, true);
        x.place(1, 156, false);
        x.place(2, 166, false);
        x.place(3, 171, false);
        x.place(1, 200, false);
        // The spot goes to 146; the fixed spot ends by 148; the recorded one is cut to 148 - 150; then comes a filler.
        due.is("runOver(0, 16)", x.runOver(0, 16), 2);
        itemsAre("16 minutes", x, row(0, 100, 46, 1), row(3, 146, 2, 0), row(1, 148, 2, 1), row(2, 150, 5, 1),
                row(1, 156, 10, 0), row(2, 166, 5, 0), row(3, 171, 2, 0), row(1, 200, 10, 0));
        due.is("owed(3)", x.owed(3), 1);
        x.undo();
        // The spot goes to 151 - 153; three are dropped; the recorded one stays.
        due.is("runOver(0, 21)", x.runOver(0, 21), 4);
        itemsAre("21 minutes", x, row(0, 100, 51, 1), row(3, 151, 2, 0), row(1, 156, 10, 0), row(2, 166, 5, 0),
                row(3, 171, 2, 0), row(1, 200, 10, 0));
        due.is("owed(3)", x.owed(3), 1);
        x.undo();
        // The spot goes to 161, the recorded one to 163 - 173, the last spot to 173 - 175.
        due.is("runOver(0, 31)", x.runOver(0, 31), 5);
        itemsAre("31 minutes", x, row(0, 100, 61, 1), row(3, 161, 2, 0), row(1, 163, 10, 0), row(3, 173, 2, 0),
                row(1, 200, 10, 0));
    }

    /** An act: undo() brings all back, what is owed, too. */
    private static void undone() {
        RadioWeek x = four();
        x.place(0, 100, false);
        x.place(3, 130, true);
        x.place(1, 132, false);
        x.place(1, 142, true);
        long before = x.fingerprint();
        due.is("runOver(0, 5)", x.runOver(0, 5), 1);
        due.is("undo()", x.undo(), 4);
        due.is("fingerprint()", x.fingerprint(), before);
        itemsAre("undone", x, row(0, 100, 30, 0), row(3, 130, 2, 1), row(1, 132, 10, 0), row(1, 142, 10, 1));
        due.is("owed(3)", x.owed(3), 0);
        due.is("undo()", x.undo(), 3);
        due.is("items()", x.items(), 3);
    }
}
