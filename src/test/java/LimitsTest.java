/**
 * How many there are at most: with nothing there, one there, all that fits, one more, and one less again.
 * Each test tells its sentence of the document.
 */
public final class LimitsTest {
    private static final int BAD = -1;
    private static final int FULL = -3;
    private static final int CLASH = -4;
    private static final int RIGHT = -5;
    private static final int NONE = -9;

    private static final Due due = new Due("LimitsTest");

    public static void main(String[] args) {
        constants();
        anEmptyWeek();
        sixteenProgrammes();
        programmesAreTheirNumbers();
        thirtyRights();
        tenBlackouts();
        tenBlackoutsAllCount();
        sixtyItems();
        sixtyItemsByFilling();
        sixtyItemsByMakingGood();
        sixtyItemsOfOneProgramme();
        sixtyItemsRunOver();
        fiftyPlays();
        fiveStates();
        calls512();
        calls512OfTheDearest();
        due.end();
    }

    /** "The constants": each has its number. */
    private static void constants() {
        due.is("BAD", RadioWeek.BAD, -1);
        due.is("STATE", RadioWeek.STATE, -2);
        due.is("FULL", RadioWeek.FULL, -3);
        due.is("CLASH", RadioWeek.CLASH, -4);
        due.is("RIGHT", RadioWeek.RIGHT, -5);
        due.is("DARK", RadioWeek.DARK, -6);
        due.is("NONE", RadioWeek.NONE, -9);
    }

    /** "Creates an empty week.": what each method answers, nothing being there. */
    private static void anEmptyWeek() {
        RadioWeek x = new RadioWeek();
        due.is("addRight()", x.addRight(0, 0, 10080, 1), BAD);
        due.is("place()", x.place(0, 0, false), BAD);
        due.is("place(), fixed", x.place(0, 0, true), BAD);
        due.is("remove()", x.remove(0), BAD);
        due.is("earliest()", x.earliest(0, 0), BAD);
        due.is("fill()", x.fill(0, 1), NONE);
        due.is("runOver()", x.runOver(0, 1), BAD);
        due.is("makeGood()", x.makeGood(0, 0), BAD);
        due.is("items()", x.items(), 0);
        due.is("item()", x.item(0, 0), BAD);
        due.is("onAir(0)", x.onAir(0), NONE);
        due.is("onAir(10079)", x.onAir(10079), NONE);
        due.is("left()", x.left(0), BAD);
        due.is("mayPlace()", x.mayPlace(0, 0), BAD);
        due.is("owed()", x.owed(0), BAD);
        for (int kind = 0; kind <= 4; kind++) {
            due.is("minutes() of kind " + kind, x.minutes(kind, 0, 10080), kind == 4 ? 10080 : 0);
        }
        due.is("silence()", x.silence(0, 10080), 10081 * 10080);
        due.is("ranked()", x.ranked(0), BAD);
        due.is("broken()", x.broken(), 0);
        due.is("line()", x.line(0, 0), BAD);
        due.is("fingerprint()", x.fingerprint(), 73L * 31 * 31 * 31 * 31);
        due.is("undo()", x.undo(), NONE);
        due.is("the first programme", x.addProgramme(2, 1, 0), 0);
        due.is("undo() of it", x.undo(), 0);
        due.is("the first blackout", x.addBlackout(0, 1, 0), 0);
        due.is("undo() of it", x.undo(), 0);
        due.is("undo() of no more", x.undo(), NONE);
    }

    /** "There are at most 16 programmes, numbered from 0." */
    private static void sixteenProgrammes() {
        RadioWeek x = new RadioWeek();
        due.is("without programmes: owed(0)", x.owed(0), BAD);
        due.is("without programmes: ranked(0)", x.ranked(0), BAD);
        for (int p = 0; p < 16; p++) {
            due.is("before programme " + p, x.owed(p), BAD);
            due.is("programme " + p, x.addProgramme(2, 10 + p, 0), p);
            due.is("after programme " + p, x.owed(p), 0);
        }
        for (int more = 0; more < 2; more++) {
            due.is("a seventeenth", x.addProgramme(2, 1, 0), FULL);
            due.is("it is not there", x.owed(16), BAD);
        }
        due.is("undo()", x.undo(), 4);
        due.is("fifteen", x.owed(15), BAD);
        due.is("the sixteenth again", x.addProgramme(2, 99, 0), 15);
        due.is("and no more", x.addProgramme(2, 1, 0), FULL);
        due.is("the last one is placed", x.place(15, 0, false), 0);
        due.is("with its own length", x.item(0, 2), 99);
    }

    /** "A programme has a kind, a length in minutes and a rating": the first and the last have their own. */
    private static void programmesAreTheirNumbers() {
        RadioWeek x = new RadioWeek();
        for (int p = 0; p < 16; p++) {
            x.addProgramme(2, 15 * p + 1, p % 4);
        }
        x.addBlackout(1000, 1001, 2);
        for (int p = 0; p < 16; p++) {
            int length = 15 * p + 1;
            due.is("the end of programme " + p, x.mayPlace(p, 10080 - length), 0);
            due.is("over the end, programme " + p, x.mayPlace(p, 10081 - length), p == 0 ? BAD : CLASH);
            due.is("the rating of programme " + p, x.mayPlace(p, 1000), p % 4 >= 2 ? -6 : 0);
        }
        RadioWeek y = new RadioWeek();
        for (int p = 0; p < 16; p++) {
            y.addProgramme(p == 15 ? 2 : p == 14 ? 1 : p % 2 * 3, 1, 0);
        }
        for (int p = 0; p < 15; p++) {
            due.is("programme " + p + " needs a right", y.mayPlace(p, 0), RIGHT);
        }
        due.is("programme 15 is a filler", y.mayPlace(15, 0), 0);
        y.addRight(14, 0, 10080, 1);
        y.place(14, 0, false);
        due.is("programme 14 is live", y.runOver(0, 1), 0);
    }

    /** "There are at most 30 rights, numbered from 0, each for one programme." */
    private static void thirtyRights() {
        RadioWeek x = new RadioWeek();
        x.addProgramme(0, 10, 0);
        x.addProgramme(3, 10, 0);
        due.is("without rights: left(0)", x.left(0), BAD);
        for (int r = 0; r < 30; r++) {
            due.is("before right " + r, x.left(r), BAD);
            due.is("right " + r, x.addRight(r % 2, 100 * r, 100 * r + 10, r + 1), r);
            due.is("after right " + r, x.left(r), r + 1);
        }
        for (int more = 0; more < 2; more++) {
            due.is("a right too many", x.addRight(0, 0, 10080, 50), FULL);
            due.is("it is not there", x.left(30), BAD);
        }
        for (int r = 0; r < 30; r++) {
            due.is("not another programme's: right " + r, x.mayPlace(1 - r % 2, 100 * r), RIGHT);
            due.is("an item for right " + r, x.place(r % 2, 100 * r, false), r);
            due.is("it uses right " + r, x.item(r, 4), r);
            due.is("left of right " + r, x.left(r), r);
        }
        x.undo();
        due.is("undo() of the last item", x.left(29), 30);
        RadioWeek y = new RadioWeek();
        y.addProgramme(0, 10, 0);
        for (int r = 0; r < 29; r++) {
            y.addRight(0, 0, 5, 1);
        }
        due.is("twenty-nine too short", y.mayPlace(0, 0), RIGHT);
        due.is("the thirtieth", y.addRight(0, 0, 10, 1), 29);
        due.is("is enough", y.mayPlace(0, 0), 0);
        due.is("undo()", y.undo(), 4);
        due.is("is not there", y.mayPlace(0, 0), RIGHT);
        due.is("the thirtieth again", y.addRight(0, 0, 9, 1), 29);
        due.is("another one", y.mayPlace(0, 0), RIGHT);
    }

    /** "There are at most 10 blackouts." */
    private static void tenBlackouts() {
        RadioWeek x = new RadioWeek();
        x.addProgramme(2, 1, 0);
        due.is("without blackouts", x.mayPlace(0, 100), 0);
        for (int b = 0; b < 10; b++) {
            due.is("before blackout " + b, x.mayPlace(0, 100 * b), 0);
            due.is("blackout " + b, x.addBlackout(100 * b, 100 * b + 1, 0), b);
            due.is("after blackout " + b, x.mayPlace(0, 100 * b), -6);
        }
        for (int more = 0; more < 2; more++) {
            due.is("an eleventh", x.addBlackout(0, 1440, 0), FULL);
            due.is("it is not there", x.mayPlace(0, 1000), 0);
        }
        due.is("undo()", x.undo(), 4);
        due.is("nine", x.mayPlace(0, 900), 0);
        due.is("the tenth again", x.addBlackout(1439, 1440, 0), 9);
        due.is("its old interval", x.mayPlace(0, 900), 0);
        due.is("its new interval", x.mayPlace(0, 1439), -6);
        due.is("and no more", x.addBlackout(0, 1440, 0), FULL);
    }

    /** An item breaks each of ten blackouts; broken() counts it once. */
    private static void tenBlackoutsAllCount() {
        RadioWeek x = new RadioWeek();
        x.addProgramme(2, 10, 0);
        for (int i = 0; i < 10; i++) {
            x.place(0, 100 * i, false);
        }
        for (int b = 0; b < 10; b++) {
            x.addBlackout(100 * b + 9, 100 * b + 10, 0);
            due.is("broken() with " + (b + 1), x.broken(), b + 1);
        }
        RadioWeek y = new RadioWeek();
        y.addProgramme(2, 10, 0);
        y.place(0, 100, false);
        for (int b = 0; b < 10; b++) {
            y.addBlackout(100 + b, 101 + b, 0);
            due.is("one item, broken() with " + (b + 1), y.broken(), 1);
        }
    }

    private static RadioWeek withFillers(int items) {
        RadioWeek x = new RadioWeek();
        x.addProgramme(2, 2, 0);
        x.addProgramme(2, 1, 0);
        for (int i = 0; i < items; i++) {
            x.place(0, 100 + 10 * i, i % 2 == 0);
        }
        return x;
    }

    /** "There are at most 60; they are numbered from 0 in the order of their starts." */
    private static void sixtyItems() {
        RadioWeek x = withFillers(0);
        due.is("without items: items()", x.items(), 0);
        due.is("without items: item(0, 0)", x.item(0, 0), BAD);
        due.is("without items: broken()", x.broken(), 0);
        for (int i = 0; i < 60; i++) {
            // Each second one goes before all the others.
            int start = i % 2 == 0 ? 5000 + 10 * i : 5000 - 10 * i;
            due.is("item " + i, x.place(0, start, false), i % 2 == 0 ? i : 0);
        }
        due.is("items()", x.items(), 60);
        due.is("one more", x.place(0, 0, false), FULL);
        due.is("one more", x.mayPlace(0, 0), FULL);
        due.is("items()", x.items(), 60);
        for (int i = 0; i < 60; i++) {
            int start = i < 30 ? 5000 - 10 * (59 - 2 * i) : 5000 + 10 * (2 * i - 60);
            due.is("the start of item " + i, x.item(i, 1), start);
            due.is("onAir() at item " + i, x.onAir(start + 1), i);
        }
        due.is("no item 60", x.item(60, 1), BAD);
        due.is("line() of item 60", x.line(60, 0), BAD);
        due.is("minutes(2, 0, 10080)", x.minutes(2, 0, 10080), 120);
        due.is("minutes(4, 0, 10080)", x.minutes(4, 0, 10080), 10080 - 120);
        due.is("silence(0, 10080)", x.silence(0, 10080), 10081 * (10080 - 5582) + 5582);
        due.is("silence(0, 5000)", x.silence(0, 5000), 10081 * 4410);
        due.is("ranked(0)", x.ranked(0), 0);
        due.is("ranked(1)", x.ranked(1), 1);
        due.is("broken()", x.broken(), 0);
        x.addBlackout(0, 1440, 0);
        due.is("broken()", x.broken(), 60);
        due.is("remove(59)", x.remove(59), 59);
        due.is("broken()", x.broken(), 59);
        due.is("fifty-nine: it is dark", x.mayPlace(0, 0), -6);
        due.is("undo()", x.undo(), 4);
        due.is("items()", x.items(), 60);
        due.is("sixty again", x.mayPlace(0, 0), FULL);
    }

    /** "FULL if there would be more than 60 items." */
    private static void sixtyItemsByFilling() {
        RadioWeek x = withFillers(60);
        due.is("sixty: one more", x.fill(0, 1), FULL);
        x = withFillers(59);
        due.is("fifty-nine: two more", x.fill(0, 3), FULL);
        due.is("items()", x.items(), 59);
        due.is("fifty-nine: one more", x.fill(0, 2), 1);
        due.is("items()", x.items(), 60);
        x = withFillers(57);
        due.is("fifty-seven: four more", x.fill(0, 6), FULL);
        due.is("fifty-seven: three more", x.fill(0, 5), 3);
        due.is("items()", x.items(), 60);
        due.is("the one that follows", x.item(3, 1), 100);
        x = withFillers(0);
        due.is("none: sixty-one", x.fill(0, 91), FULL);
        due.is("none: sixty", x.fill(0, 90), 60);
        due.is("the last one", x.item(59, 1), 89);
    }

    /** makeGood(): "NONE if earliest() finds no start", which it does not with sixty items. */
    private static void sixtyItemsByMakingGood() {
        for (int more = 57; more <= 59; more++) {
            RadioWeek x = new RadioWeek();
            x.addProgramme(1, 10, 0);
            x.addProgramme(3, 5, 0);
            x.addProgramme(2, 1, 0);
            x.addRight(0, 0, 10080, 1);
            x.addRight(1, 0, 10080, 5);
            x.place(0, 0, false);
            x.place(1, 10, true);
            x.runOver(0, 5);
            for (int i = 0; i < more; i++) {
                x.place(2, 1000 + 2 * i, false);
            }
            due.is("makeGood() with " + (more + 1) + " items", x.makeGood(1, 0), more == 59 ? NONE : 15);
            due.is("items()", x.items(), more == 59 ? 60 : more + 2);
            due.is("owed(1)", x.owed(1), more == 59 ? 1 : 0);
        }
    }

    /** Fifty-nine items of a programme, one more by two rights, and no more. */
    private static void sixtyItemsOfOneProgramme() {
        RadioWeek x = new RadioWeek();
        x.addProgramme(3, 10, 0);
        x.addRight(0, 0, 10080, 50);
        x.addRight(0, 0, 9000, 9);
        x.addRight(0, 100, 10080, 1);
        for (int i = 0; i < 59; i++) {
            due.is("item " + i, x.place(0, 1000 + 20 * i, false), i);
        }
        due.is("left(0)", x.left(0), 0);
        due.is("left(1)", x.left(1), 0);
        due.is("left(2)", x.left(2), 1);
        due.is("the sixtieth, out of the last right's window", x.mayPlace(0, 99 - 10), 0);
        due.is("the sixtieth", x.place(0, 0, false), 0);
        due.is("left(2)", x.left(2), 0);
        due.is("the last one uses it", x.item(59, 4), 2);
        due.is("one more", x.place(0, 5000, false), FULL);
    }

    /** Sixty items of which one runs over and all others are pushed. */
    private static void sixtyItemsRunOver() {
        RadioWeek x = new RadioWeek();
        x.addProgramme(1, 10, 0);
        x.addProgramme(3, 10, 0);
        x.addRight(0, 0, 10080, 1);
        x.addRight(1, 0, 10080, 50);
        x.addRight(1, 0, 10080, 9);
        x.place(0, 100, false);
        for (int i = 1; i < 60; i++) {
            x.place(1, 100 + 10 * i, false);
        }
        due.is("all are pushed", x.runOver(0, 120), 0);
        due.is("items()", x.items(), 60);
        due.is("the start of item 1", x.item(1, 1), 230);
        due.is("the start of item 59", x.item(59, 1), 230 + 58 * 10);
        due.is("undo()", x.undo(), 4);
        due.is("the start of item 59", x.item(59, 1), 690);
        RadioWeek y = new RadioWeek();
        y.addProgramme(1, 10, 0);
        y.addProgramme(2, 1, 0);
        y.addRight(0, 0, 10080, 1);
        y.place(0, 100, false);
        for (int i = 0; i < 59; i++) {
            y.place(1, 110 + i, i % 2 == 0);
        }
        due.is("all but one are dropped", y.runOver(0, 58), 58);
        due.is("items()", y.items(), 2);
        due.is("the last one too", y.runOver(0, 1), 1);
        due.is("none is there any more", y.runOver(0, 1), 0);
    }

    /** "no right may cover more items than its number of plays": 50 at most. */
    private static void fiftyPlays() {
        RadioWeek x = new RadioWeek();
        x.addProgramme(0, 1, 0);
        x.addRight(0, 0, 10080, 50);
        for (int i = 0; i < 50; i++) {
            due.is("left(0) with " + i, x.left(0), 50 - i);
            due.is("item " + i, x.place(0, 10 * i, false), i);
        }
        due.is("left(0)", x.left(0), 0);
        due.is("the fifty-first", x.place(0, 5000, false), RIGHT);
        due.is("the fifty-first, before all", x.place(0, 1, false), RIGHT);
        due.is("remove(49)", x.remove(49), 49);
        due.is("left(0)", x.left(0), 1);
        due.is("again the fiftieth", x.place(0, 5000, false), 49);
        due.is("the fifty-first", x.place(0, 6000, false), RIGHT);
    }

    /** "A history of at most 5 states is kept; if there are 5 already, the oldest one is dropped." */
    private static void fiveStates() {
        for (int acts = 0; acts <= 13; acts++) {
            RadioWeek x = new RadioWeek();
            for (int p = 0; p < acts; p++) {
                x.addProgramme(2, p + 1, 0);
            }
            int states = Math.min(acts, 5);
            for (int back = 1; back <= states; back++) {
                due.is(acts + " acts, undo() " + back, x.undo(), states - back);
                due.is(acts + " acts, after undo() " + back, x.owed(acts - back), BAD);
                if (acts > back) {
                    due.is(acts + " acts, what is left", x.owed(acts - back - 1), 0);
                }
            }
            due.is(acts + " acts, no more", x.undo(), NONE);
            due.is(acts + " acts, nor then", x.undo(), NONE);
        }
    }

    /** "An object is used for at most 512 calls": the 512th is answered as the first. */
    private static void calls512() {
        RadioWeek x = new RadioWeek();
        x.addProgramme(2, 7, 0);
        for (int call = 2; call <= 510; call += 2) {
            due.is("call " + call, x.place(0, 100, false), 0);
            due.is("call " + (call + 1), x.undo(), 1);
        }
        due.is("call 512", x.place(0, 10073, true), 0);
        RadioWeek y = new RadioWeek();
        y.addProgramme(2, 7, 0);
        y.place(0, 10073, true);
        for (int call = 3; call <= 511; call++) {
            due.is("call " + call, y.items(), 1);
        }
        due.is("call 512", y.line(0, 13), '!');
    }

    /** 512 calls that have the most to do. */
    private static void calls512OfTheDearest() {
        RadioWeek x = new RadioWeek();
        for (int p = 0; p < 16; p++) {
            x.addProgramme(2, 1 + p / 2, 3);
        }
        for (int b = 0; b < 10; b++) {
            x.addBlackout(1430 + b, 1431 + b, 3);
        }
        for (int call = 27; call <= 512; call++) {
            if (call % 2 == 1) {
                due.is("call " + call, x.fill(0, 240), 30);
            } else {
                due.is("call " + call, x.undo(), 4);
            }
        }
        RadioWeek y = new RadioWeek();
        y.addProgramme(3, 240, 0);
        for (int r = 0; r < 30; r++) {
            y.addRight(0, 336 * r, 336 * r + 239, 50);
        }
        for (int call = 32; call <= 511; call++) {
            due.is("call " + call, y.earliest(0, 20 * (call - 32)), NONE);
        }
        due.is("call 512", y.earliest(0, 10079), NONE);
    }
}
