/** The sections TIME, ITEMS, PLACING (CLASH) and BLACKOUTS: each test tells its sentence of the document. */
public final class TimesTest {
    private static final int BAD = -1;
    private static final int CLASH = -4;
    private static final int DARK = -6;
    private static final int NONE = -9;
    private static final int DAY = 1440;

    private static final Due due = new Due("TimesTest");

    public static void main(String[] args) {
        theFirstAndTheLastMinute();
        aWeekHasSevenDays();
        anItemEndsAt10080AtMost();
        anItemsMinutes();
        itemsDoNotOverlap();
        itemsOfOneMinute();
        theirNumbersAreTheirOrder();
        anItemCanBeFixed();
        aLengthIsAtFirstThatOfTheProgramme();
        minuteOfTheDay();
        aBlackoutContainsItsFirstNotItsEnd();
        aBlackoutOfTheWholeDay();
        aBlackoutOverMidnightIsTwo();
        itemsOverMidnight();
        ratings();
        severalBlackouts();
        longerThanADay();
        itemsThatAreThereStay();
        due.end();
    }

    /** One filler of each of the lengths. */
    private static RadioWeek fillers(int... lengths) {
        RadioWeek x = new RadioWeek();
        for (int length : lengths) {
            x.addProgramme(2, length, 0);
        }
        return x;
    }

    /** "Times are minutes from 0 to 10080 (7 days of 1440 minutes)." */
    private static void theFirstAndTheLastMinute() {
        RadioWeek x = fillers(1);
        due.is("nothing at 0", x.onAir(0), NONE);
        due.is("nothing at 10079", x.onAir(10079), NONE);
        due.is("the last minute", x.place(0, 10079, false), 0);
        due.is("the first minute", x.place(0, 0, false), 0);
        due.is("onAir(0)", x.onAir(0), 0);
        due.is("onAir(1)", x.onAir(1), NONE);
        due.is("onAir(10078)", x.onAir(10078), NONE);
        due.is("onAir(10079)", x.onAir(10079), 1);
        due.is("onAir(10080)", x.onAir(10080), BAD);
        due.is("onAir(-1)", x.onAir(-1), BAD);
        due.is("minutes(2, 0, 1)", x.minutes(2, 0, 1), 1);
        due.is("minutes(2, 10079, 10080)", x.minutes(2, 10079, 10080), 1);
        due.is("minutes(4, 0, 10080)", x.minutes(4, 0, 10080), 10078);
        due.is("silence(0, 10080)", x.silence(0, 10080), 10081 * 10078 + 1);
        due.is("the first minute again", x.place(0, 0, false), CLASH);
        due.is("the last minute again", x.place(0, 10079, false), CLASH);
        due.is("the second minute", x.mayPlace(0, 1), 0);
        due.is("the last but one", x.mayPlace(0, 10078), 0);
    }

    /** "(7 days of 1440 minutes)" */
    private static void aWeekHasSevenDays() {
        RadioWeek x = fillers(2);
        for (int day = 0; day < 7; day++) {
            due.is("midnight of day " + day, x.place(0, day * DAY, false), 2 * day);
            due.is("the end of day " + day, x.place(0, day * DAY + DAY - 2, false), 2 * day + 1);
            due.is("the digit of day " + day, x.line(2 * day, 0), '0' + day);
            due.is("the digit of day " + day, x.line(2 * day + 1, 0), '0' + day);
        }
        due.is("an eighth day", x.place(0, 7 * DAY, false), BAD);
        due.is("over the seventh day's end", x.place(0, 7 * DAY - 1, false), CLASH);
    }

    /** "its start plus its length, which is at most 10080" */
    private static void anItemEndsAt10080AtMost() {
        int[] lengths = {2, 3, 59, 239, 240};
        for (int length : lengths) {
            RadioWeek x = fillers(length);
            due.is(length + " minutes, over the end", x.place(0, 10081 - length, false), CLASH);
            due.is(length + " minutes, the last start of all", x.place(0, 10079, false), CLASH);
            due.is(length + " minutes, to the end", x.place(0, 10080 - length, false), 0);
            due.is(length + " minutes, onAir(10079)", x.onAir(10079), 0);
            due.is(length + " minutes, before it", x.onAir(10079 - length), NONE);
        }
    }

    /** "Its minutes are those of the interval from its start to its start plus its length." */
    private static void anItemsMinutes() {
        RadioWeek x = fillers(10, 240);
        x.place(0, 100, false);
        x.place(1, 200, false);
        int[][] want = {{99, NONE}, {100, 0}, {101, 0}, {109, 0}, {110, NONE}, {199, NONE}, {200, 1}, {439, 1}, {440, NONE}};
        for (int[] w : want) {
            due.is("onAir(" + w[0] + ")", x.onAir(w[0]), w[1]);
        }
    }

    /** "Items do not overlap." "CLASH (it would overlap an item...)": one minute is too much, touching is not. */
    private static void itemsDoNotOverlap() {
        RadioWeek x = fillers(10, 1, 30, 240);
        x.place(0, 1000, false);
        int[][] want = {{0, 990, 0}, {0, 991, CLASH}, {0, 1000, CLASH}, {0, 1009, CLASH}, {0, 1010, 0},
            {1, 999, 0}, {1, 1000, CLASH}, {1, 1005, CLASH}, {1, 1009, CLASH}, {1, 1010, 0},
            {2, 970, 0}, {2, 971, CLASH}, {2, 980, CLASH}, {2, 990, CLASH}, {2, 1009, CLASH}, {2, 1010, 0},
            {3, 760, 0}, {3, 761, CLASH}, {3, 1009, CLASH}, {3, 1010, 0}};
        for (int[] w : want) {
            due.is("mayPlace(" + w[0] + ", " + w[1] + ")", x.mayPlace(w[0], w[1]), w[2]);
        }
        x.place(0, 1020, false);
        due.is("a gap that fits", x.mayPlace(0, 1010), 0);
        due.is("a gap a minute too short", x.mayPlace(0, 1011), CLASH);
        x.place(0, 1010, false);
        due.is("no gap", x.mayPlace(1, 1015), CLASH);
        due.is("behind all three", x.mayPlace(0, 1030), 0);
    }

    private static void itemsOfOneMinute() {
        RadioWeek x = fillers(1, 2);
        x.place(0, 500, false);
        due.is("directly before", x.place(0, 499, false), 0);
        due.is("directly after", x.place(0, 501, false), 2);
        due.is("two minutes before", x.mayPlace(1, 497), 0);
        due.is("two minutes, one of them there", x.mayPlace(1, 498), CLASH);
        due.is("the same minute", x.mayPlace(0, 501), CLASH);
    }

    /** "They are numbered from 0 in the order of their starts." */
    private static void theirNumbersAreTheirOrder() {
        RadioWeek x = fillers(10, 20);
        due.is("the first", x.place(0, 500, false), 0);
        due.is("after it", x.place(1, 510, true), 1);
        due.is("before it", x.place(1, 480, false), 0);
        due.is("between", x.place(0, 600, false), 3);
        due.is("between", x.place(0, 570, true), 3);
        int[][] want = {{1, 480, 20, 0}, {0, 500, 10, 0}, {1, 510, 20, 1}, {0, 570, 10, 1}, {0, 600, 10, 0}};
        for (int i = 0; i < want.length; i++) {
            for (int what = 0; what < 4; what++) {
                due.is("item(" + i + ", " + what + ")", x.item(i, what), want[i][what]);
            }
        }
        due.is("remove(1)", x.remove(1), 4);
        due.is("those after it count one less", x.item(1, 1), 510);
        due.is("the one before it does not", x.item(0, 1), 480);
        due.is("the last one", x.item(3, 1), 600);
        due.is("no more", x.item(4, 1), BAD);
    }

    private static void anItemCanBeFixed() {
        RadioWeek x = fillers(10);
        x.place(0, 100, true);
        x.place(0, 200, false);
        due.is("fixed", x.item(0, 3), 1);
        due.is("not fixed", x.item(1, 3), 0);
    }

    private static void aLengthIsAtFirstThatOfTheProgramme() {
        RadioWeek x = fillers(1, 240);
        x.place(0, 0, false);
        x.place(1, 1, false);
        due.is("one minute", x.item(0, 2), 1);
        due.is("240 minutes", x.item(1, 2), 240);
        due.is("the last of them", x.onAir(240), 1);
        due.is("after it", x.onAir(241), NONE);
    }

    /** "The minute of the day of a time is the time modulo 1440." */
    private static void minuteOfTheDay() {
        RadioWeek x = fillers(1);
        x.addBlackout(0, 1, 0);
        RadioWeek y = fillers(1);
        y.addBlackout(1439, 1440, 0);
        for (int day = 0; day < 7; day++) {
            int midnight = day * DAY;
            due.is("the first minute of day " + day, x.mayPlace(0, midnight), DARK);
            due.is("the second minute of day " + day, x.mayPlace(0, midnight + 1), 0);
            due.is("the last minute of day " + day, x.mayPlace(0, midnight + 1439), 0);
            due.is("the first minute of day " + day, y.mayPlace(0, midnight), 0);
            due.is("the last but one of day " + day, y.mayPlace(0, midnight + 1438), 0);
            due.is("the last minute of day " + day, y.mayPlace(0, midnight + 1439), DARK);
        }
    }

    /** "An interval from a to b contains the minutes a, a + 1, ..., b - 1." */
    private static void aBlackoutContainsItsFirstNotItsEnd() {
        RadioWeek x = fillers(1, 10, 240);
        x.addBlackout(600, 601, 0);
        int[][] one = {{0, 599, 0}, {0, 600, DARK}, {0, 601, 0}, {1, 590, 0}, {1, 591, DARK}, {1, 600, DARK},
            {1, 601, 0}, {2, 360, 0}, {2, 361, DARK}, {2, 600, DARK}, {2, 601, 0}};
        for (int[] w : one) {
            for (int day = 0; day < 7; day += 3) {
                due.is("one minute: mayPlace(" + w[0] + ", " + w[1] + ") on day " + day,
                        x.mayPlace(w[0], day * DAY + w[1]), w[2]);
            }
        }
        RadioWeek y = fillers(1, 10, 240);
        y.addBlackout(600, 700, 0);
        int[][] more = {{0, 599, 0}, {0, 600, DARK}, {0, 650, DARK}, {0, 699, DARK}, {0, 700, 0}, {1, 590, 0},
            {1, 591, DARK}, {1, 645, DARK}, {1, 699, DARK}, {1, 700, 0}, {2, 360, 0}, {2, 361, DARK},
            {2, 530, DARK}, {2, 699, DARK}, {2, 700, 0}};
        for (int[] w : more) {
            for (int day = 0; day < 7; day += 3) {
                due.is("mayPlace(" + w[0] + ", " + w[1] + ") on day " + day, y.mayPlace(w[0], day * DAY + w[1]), w[2]);
            }
        }
    }

    private static void aBlackoutOfTheWholeDay() {
        RadioWeek x = fillers(1, 240);
        x.addBlackout(0, 1440, 0);
        int[] starts = {0, 1, 719, 1439, 1440, 1441, 5000, 8639, 8640, 9840};
        for (int start : starts) {
            due.is("dark at " + start, x.mayPlace(0, start), DARK);
            due.is("dark at " + start, x.mayPlace(1, start), DARK);
        }
        due.is("dark at the last minute", x.mayPlace(0, 10079), DARK);
        due.is("no start", x.earliest(0, 0), NONE);
        RadioWeek y = fillers(1, 2);
        y.addBlackout(1, 1440, 0);
        due.is("all but a minute: it", y.mayPlace(0, 2880), 0);
        due.is("all but a minute: the one before", y.mayPlace(0, 2879), DARK);
        due.is("all but a minute: the one after", y.mayPlace(0, 2881), DARK);
        due.is("two minutes never fit", y.earliest(1, 0), NONE);
    }

    /** An interval ends at 1440 at most: a night has two. */
    private static void aBlackoutOverMidnightIsTwo() {
        RadioWeek x = fillers(10);
        x.addBlackout(1400, 1440, 0);
        due.is("until midnight", x.mayPlace(0, 1390), 0);
        due.is("before midnight", x.mayPlace(0, 1430), DARK);
        due.is("over midnight", x.mayPlace(0, 1435), DARK);
        due.is("after midnight", x.mayPlace(0, 1440), 0);
        x.addBlackout(0, 40, 0);
        due.is("after midnight", x.mayPlace(0, 1440), DARK);
        due.is("the last one", x.mayPlace(0, 1479), DARK);
        due.is("in the morning", x.mayPlace(0, 1480), 0);
        due.is("on the first day", x.mayPlace(0, 0), DARK);
        due.is("earliest(0, 1391)", x.earliest(0, 1391), 1480);
    }

    /** "a minute of it has a minute of the day in the interval", also after midnight. */
    private static void itemsOverMidnight() {
        RadioWeek x = fillers(240);
        x.addBlackout(0, 1, 0);
        for (int day = 1; day < 7; day++) {
            int midnight = day * DAY;
            due.is("ends at midnight " + day, x.mayPlace(0, midnight - 240), 0);
            due.is("ends a minute later " + day, x.mayPlace(0, midnight - 239), DARK);
            due.is("begins a minute before " + day, x.mayPlace(0, midnight - 1), DARK);
            due.is("begins at midnight " + day, x.mayPlace(0, midnight), DARK);
            due.is("begins after it " + day, x.mayPlace(0, midnight + 1), 0);
        }
        RadioWeek y = fillers(240);
        y.addBlackout(1439, 1440, 0);
        for (int day = 1; day < 7; day++) {
            int midnight = day * DAY;
            due.is("ends a minute before midnight " + day, y.mayPlace(0, midnight - 241), 0);
            due.is("ends at midnight " + day, y.mayPlace(0, midnight - 240), DARK);
            due.is("begins a minute before " + day, y.mayPlace(0, midnight - 1), DARK);
            due.is("begins at midnight " + day, y.mayPlace(0, midnight), 0);
        }
        RadioWeek z = fillers(240);
        z.addBlackout(100, 101, 0);
        due.is("up to it after midnight", z.mayPlace(0, 2 * DAY - 140), 0);
        due.is("into it after midnight", z.mayPlace(0, 2 * DAY - 139), DARK);
    }

    /** "if the rating of its programme is at least that of the blackout" */
    private static void ratings() {
        for (int blackout = 0; blackout <= 3; blackout++) {
            RadioWeek x = new RadioWeek();
            for (int rating = 0; rating <= 3; rating++) {
                x.addProgramme(2, 10, rating);
                x.place(rating, 500 + 10 * rating, false);
            }
            due.is("blackout " + blackout, x.addBlackout(600, 700, blackout), 0);
            due.is("none is in it", x.broken(), 0);
            for (int rating = 0; rating <= 3; rating++) {
                int want = rating >= blackout ? DARK : 0;
                due.is("rating " + rating + ", blackout " + blackout, x.mayPlace(rating, 650), want);
            }
            x.addBlackout(500, 540, blackout);
            due.is("broken(), blackout " + blackout, x.broken(), 4 - blackout);
        }
    }

    /** Each of several blackouts counts with its own rating. */
    private static void severalBlackouts() {
        RadioWeek x = new RadioWeek();
        x.addProgramme(2, 10, 1);
        x.addProgramme(2, 10, 2);
        x.addBlackout(100, 200, 2);
        x.addBlackout(150, 250, 1);
        due.is("rating 1 in the first", x.mayPlace(0, 120), 0);
        due.is("rating 2 in the first", x.mayPlace(1, 120), DARK);
        due.is("rating 1 in both", x.mayPlace(0, 160), DARK);
        due.is("rating 2 in both", x.mayPlace(1, 160), DARK);
        due.is("rating 1 in the second", x.mayPlace(0, 210), DARK);
        due.is("rating 1 up to the second", x.mayPlace(0, 140), 0);
        due.is("rating 2 between day and day", x.mayPlace(1, 250), 0);
        due.is("earliest(0, 100)", x.earliest(0, 100), 100);
        due.is("earliest(0, 141)", x.earliest(0, 141), 250);
        due.is("earliest(1, 91)", x.earliest(1, 91), 250);
        due.is("earliest(1, 90)", x.earliest(1, 90), 90);
    }

    /** A live item of 1439 minutes misses one minute of the day; with one more it has them all. */
    private static void longerThanADay() {
        RadioWeek x = new RadioWeek();
        x.addProgramme(1, 240, 0);
        x.addRight(0, 0, 10080, 1);
        x.place(0, 51, false);
        x.addBlackout(50, 51, 0);
        for (int i = 0; i < 9; i++) {
            x.runOver(0, 120);
        }
        due.is("runOver(0, 119)", x.runOver(0, 119), 0);
        due.is("1439 minutes", x.item(0, 2), 1439);
        due.is("all but one minute", x.broken(), 0);
        due.is("runOver(0, 1)", x.runOver(0, 1), 0);
        due.is("1440 minutes", x.item(0, 2), 1440);
        due.is("a whole day", x.broken(), 1);
        x.undo();
        x.undo();
        x.addBlackout(49, 50, 0);
        due.is("the minute before", x.broken(), 0);
        x.runOver(0, 118);
        due.is("up to it on the next day", x.broken(), 0);
        x.runOver(0, 1);
        due.is("into it on the next day", x.broken(), 1);
        RadioWeek y = new RadioWeek();
        y.addProgramme(1, 240, 0);
        y.addRight(0, 0, 10080, 1);
        y.place(0, 700, false);
        for (int i = 0; i < 30; i++) {
            y.runOver(0, 120);
        }
        for (int from = 0; from < 1440; from += 120) {
            y.addBlackout(from, from + 1, 0);
            due.is("some days: any blackout from " + from, y.broken(), 1);
            y.undo();
        }
        y.addBlackout(1439, 1440, 0);
        due.is("some days: the last minute", y.broken(), 1);
        y.undo();
        due.is("some days: no blackout", y.broken(), 0);
    }

    /** "Items that are there already stay." */
    private static void itemsThatAreThereStay() {
        RadioWeek x = fillers(10);
        x.place(0, 100, true);
        x.place(0, 200, false);
        due.is("a blackout over both", x.addBlackout(0, 1440, 0), 0);
        due.is("items()", x.items(), 2);
        due.is("broken()", x.broken(), 2);
        due.is("the first", x.item(0, 1), 100);
        due.is("the second", x.item(1, 1), 200);
        due.is("remove(0)", x.remove(0), 1);
        due.is("it can't come back", x.place(0, 100, true), DARK);
        due.is("broken()", x.broken(), 1);
    }
}
