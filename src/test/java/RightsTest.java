/** The section RIGHTS and the error RIGHT of PLACING: each test tells its sentence of the document. */
public final class RightsTest {
    private static final int RIGHT = -5;
    private static final int NONE = -9;

    private static final int RECORDED = 0;
    private static final int LIVE = 1;
    private static final int FILLER = 2;
    private static final int SPOT = 3;

    private static final Due due = new Due("RightsTest");

    public static void main(String[] args) {
        whichKindsNeedOne();
        noneThereOneThere();
        allMinutesInTheWindow();
        windowsAtTheWeeksEnds();
        aWindowTooShort();
        eachByOneRight();
        eachForOneProgramme();
        playsLeft();
        theWindowThatEndsFirst();
        whereverItBeginsAndHoweverMany();
        ofSeveralTheSmallestNumber();
        onlyWithPlaysLeft();
        inTheOrderOfTheirStarts();
        aNewItemBeforeAnItemThatIsThere();
        aNewItemAfterThem();
        aNewItemBetweenThem();
        itemsOfOtherProgrammesDoNotMatter();
        brokenByAnItemThatIsThere();
        anItemThatFindsNone();
        itsMinutesAreThoseItHasNow();
        fillersUseNone();
        aRightThatComesLater();
        due.end();
    }

    private static RadioWeek with(int kind, int length) {
        RadioWeek x = new RadioWeek();
        x.addProgramme(kind, length, 0);
        return x;
    }

    /** The rights that the items use, in their order. */
    private static void usesAre(String when, RadioWeek x, int... rights) {
        due.is(when + ": items()", x.items(), rights.length);
        for (int i = 0; i < rights.length; i++) {
            due.is(when + ": item(" + i + ", 4)", x.item(i, 4), rights[i]);
        }
    }

    private static void leftIs(String when, RadioWeek x, int... plays) {
        for (int r = 0; r < plays.length; r++) {
            due.is(when + ": left(" + r + ")", x.left(r), plays[r]);
        }
        due.is(when + ": left(" + plays.length + ")", x.left(plays.length), -1);
    }

    /** "All items of a programme that is no filler must be covered." "(Fillers need no rights.)" */
    private static void whichKindsNeedOne() {
        int[] kinds = {RECORDED, LIVE, FILLER, SPOT};
        for (int kind : kinds) {
            RadioWeek x = with(kind, 10);
            due.is("kind " + kind + " without a right", x.mayPlace(0, 100), kind == FILLER ? 0 : RIGHT);
            due.is("kind " + kind + ", earliest", x.earliest(0, 0), kind == FILLER ? 0 : NONE);
            x.addRight(0, 0, 10080, 1);
            due.is("kind " + kind + " with a right", x.place(0, 100, false), 0);
            due.is("kind " + kind + ", the right it uses", x.item(0, 4), kind == FILLER ? NONE : 0);
            due.is("kind " + kind + ", the plays left", x.left(0), kind == FILLER ? 1 : 0);
            due.is("kind " + kind + ", a second one", x.place(0, 200, false), kind == FILLER ? 1 : RIGHT);
        }
    }

    private static void noneThereOneThere() {
        RadioWeek x = with(RECORDED, 10);
        due.is("none there", x.place(0, 0, false), RIGHT);
        x.addRight(0, 0, 10, 1);
        due.is("one there", x.place(0, 0, false), 0);
        x.undo();
        x.undo();
        due.is("none there again", x.place(0, 0, false), RIGHT);
    }

    /** "covered by a right of this programme if all its minutes are in the window" */
    private static void allMinutesInTheWindow() {
        RadioWeek x = with(SPOT, 10);
        x.addRight(0, 100, 130, 5);
        int[][] want = {{0, RIGHT}, {90, RIGHT}, {99, RIGHT}, {100, 0}, {101, 0}, {119, 0}, {120, 0}, {121, RIGHT},
            {129, RIGHT}, {130, RIGHT}, {10070, RIGHT}};
        for (int[] w : want) {
            due.is("mayPlace(0, " + w[0] + ")", x.mayPlace(0, w[0]), w[1]);
        }
        RadioWeek y = with(SPOT, 10);
        y.addRight(0, 100, 110, 5);
        due.is("a minute before", y.mayPlace(0, 99), RIGHT);
        due.is("exactly", y.mayPlace(0, 100), 0);
        due.is("a minute after", y.mayPlace(0, 101), RIGHT);
        RadioWeek z = with(SPOT, 1);
        z.addRight(0, 100, 101, 5);
        due.is("a window of one minute: before", z.mayPlace(0, 99), RIGHT);
        due.is("a window of one minute", z.mayPlace(0, 100), 0);
        due.is("a window of one minute: after", z.mayPlace(0, 101), RIGHT);
    }

    private static void windowsAtTheWeeksEnds() {
        RadioWeek x = with(RECORDED, 240);
        x.addRight(0, 0, 240, 1);
        x.addRight(0, 9840, 10080, 1);
        due.is("the first start", x.place(0, 0, false), 0);
        due.is("a minute before the last start", x.place(0, 9839, false), RIGHT);
        due.is("the last start", x.place(0, 9840, false), 1);
        usesAre("both ends", x, 0, 1);
    }

    private static void aWindowTooShort() {
        RadioWeek x = with(RECORDED, 10);
        x.addRight(0, 100, 109, 50);
        for (int start = 90; start <= 110; start++) {
            due.is("a window of nine minutes, start " + start, x.mayPlace(0, start), RIGHT);
        }
    }

    /** "each by one right": two windows side by side cover no item that has minutes of both. */
    private static void eachByOneRight() {
        RadioWeek x = with(RECORDED, 10);
        x.addRight(0, 100, 200, 5);
        x.addRight(0, 200, 300, 5);
        due.is("in the first", x.mayPlace(0, 190), 0);
        for (int start = 191; start <= 199; start++) {
            due.is("over both, start " + start, x.mayPlace(0, start), RIGHT);
        }
        due.is("in the second", x.mayPlace(0, 200), 0);
        x.addRight(0, 195, 205, 1);
        due.is("a third one for both", x.mayPlace(0, 195), 0);
        due.is("not a minute later", x.mayPlace(0, 196), RIGHT);
    }

    /** "numbered from 0, each for one programme" */
    private static void eachForOneProgramme() {
        RadioWeek x = with(RECORDED, 10);
        x.addProgramme(RECORDED, 10, 0);
        x.addRight(0, 0, 10080, 2);
        due.is("the other programme", x.place(1, 100, false), RIGHT);
        x.addRight(1, 0, 5000, 1);
        due.is("with its own", x.place(1, 100, false), 0);
        due.is("the first programme", x.place(0, 200, false), 1);
        usesAre("each its own, though the other's ends first", x, 1, 0);
        leftIs("each its own", x, 1, 0);
        due.is("the other programme can't use what is left", x.place(1, 300, false), RIGHT);
    }

    /** "no right may cover more items than its number of plays" */
    private static void playsLeft() {
        for (int plays = 1; plays <= 50; plays += 7) {
            RadioWeek x = with(SPOT, 5);
            x.addRight(0, 0, 10080, plays);
            for (int i = 0; i < plays; i++) {
                due.is(plays + " plays, item " + i, x.place(0, 10 * i, false), i);
            }
            leftIs(plays + " plays", x, 0);
            due.is(plays + " plays, one more", x.place(0, 5000, false), RIGHT);
            x.remove(0);
            leftIs(plays + " plays, one item less", x, 1);
            due.is(plays + " plays, one again", x.place(0, 5000, false), plays - 1);
        }
    }

    /** "the one whose window ends first" */
    private static void theWindowThatEndsFirst() {
        RadioWeek x = with(RECORDED, 10);
        x.addRight(0, 0, 501, 1);
        x.addRight(0, 0, 500, 1);
        x.addRight(0, 0, 502, 1);
        x.place(0, 100, false);
        usesAre("one item", x, 1);
        x.place(0, 110, false);
        usesAre("two items", x, 1, 0);
        x.place(0, 120, false);
        usesAre("three items", x, 1, 0, 2);
        due.is("a fourth", x.place(0, 130, false), RIGHT);
    }

    private static void whereverItBeginsAndHoweverMany() {
        RadioWeek x = with(RECORDED, 10);
        x.addRight(0, 95, 600, 1);
        x.addRight(0, 0, 599, 50);
        x.place(0, 100, false);
        usesAre("not the one that begins later or has fewer plays", x, 1);
        x.addRight(0, 100, 111, 1);
        usesAre("not the longest", x, 2);
        x.addRight(0, 100, 110, 1);
        usesAre("it ends with the item", x, 3);
        x.addRight(0, 100, 109, 1);
        usesAre("it ends before the item, which it does not cover", x, 3);
        x.addRight(0, 101, 110, 1);
        usesAre("it begins after the item, which it does not cover", x, 3);
    }

    /** "of several the one with the smallest number" */
    private static void ofSeveralTheSmallestNumber() {
        RadioWeek x = with(RECORDED, 10);
        x.addRight(0, 0, 900, 1);
        x.addRight(0, 50, 800, 1);
        x.addRight(0, 0, 800, 2);
        x.addRight(0, 90, 800, 1);
        for (int i = 0; i < 5; i++) {
            x.place(0, 100 + 10 * i, false);
        }
        usesAre("of three that end at 800", x, 1, 2, 2, 3, 0);
        leftIs("all used", x, 0, 0, 0, 0);
    }

    /** "of the rights of this programme that cover it and have plays left" */
    private static void onlyWithPlaysLeft() {
        RadioWeek x = with(RECORDED, 10);
        x.addRight(0, 0, 400, 2);
        x.addRight(0, 0, 10080, 1);
        x.place(0, 100, false);
        x.place(0, 200, false);
        usesAre("two plays", x, 0, 0);
        leftIs("two plays", x, 0, 1);
        x.place(0, 300, false);
        usesAre("then the other", x, 0, 0, 1);
        leftIs("then the other", x, 0, 0);
        due.is("no more", x.mayPlace(0, 350), RIGHT);
        due.is("no more", x.mayPlace(0, 5000), RIGHT);
    }

    /** "for the items of a programme in the order of their starts", not in that of their placing */
    private static void inTheOrderOfTheirStarts() {
        RadioWeek x = with(RECORDED, 10);
        x.addRight(0, 0, 500, 1);
        x.addRight(0, 0, 600, 1);
        x.place(0, 300, false);
        usesAre("alone", x, 0);
        x.place(0, 200, false);
        usesAre("the earlier one goes first", x, 0, 1);
        due.is("remove(0)", x.remove(0), 1);
        usesAre("alone again", x, 0);
        leftIs("alone again", x, 0, 1);
    }

    /** "perhaps for one that is there already" */
    private static void aNewItemBeforeAnItemThatIsThere() {
        RadioWeek x = with(RECORDED, 10);
        x.addRight(0, 100, 300, 1);
        x.addRight(0, 0, 200, 1);
        x.place(0, 250, false);
        usesAre("only the first covers it", x, 0);
        due.is("another one finds the second", x.mayPlace(0, 150), 0);
        due.is("until its end", x.mayPlace(0, 190), 0);
        due.is("then it would take the one that is used", x.mayPlace(0, 191), RIGHT);
        due.is("and the item that is there would find none", x.mayPlace(0, 240), RIGHT);
        due.is("after the item", x.mayPlace(0, 260), RIGHT);
    }

    private static void aNewItemAfterThem() {
        RadioWeek x = with(RECORDED, 10);
        x.addRight(0, 0, 1000, 2);
        x.place(0, 100, false);
        due.is("one more", x.mayPlace(0, 500), 0);
        x.place(0, 200, false);
        due.is("two are enough", x.mayPlace(0, 500), RIGHT);
        x.addRight(0, 0, 220, 1);
        due.is("the ones before use another one now", x.mayPlace(0, 500), 0);
        x.place(0, 500, false);
        usesAre("three items", x, 1, 0, 0);
    }

    /** The items that are there use others with a new one between them. */
    private static void aNewItemBetweenThem() {
        RadioWeek x = with(RECORDED, 10);
        x.addRight(0, 0, 400, 1);
        x.addRight(0, 0, 500, 1);
        x.addRight(0, 250, 600, 1);
        x.place(0, 100, false);
        x.place(0, 300, false);
        usesAre("two items", x, 0, 1);
        due.is("between", x.place(0, 200, false), 1);
        usesAre("three items", x, 0, 1, 2);
        due.is("a fourth", x.mayPlace(0, 50), RIGHT);
        due.is("undo()", x.undo(), 4);
        due.is("a third one that the last does not reach", x.mayPlace(0, 500), 0);
        x.addRight(0, 490, 520, 1);
        usesAre("rights that are not needed", x, 0, 1);
    }

    /** "items of other programmes do not matter" */
    private static void itemsOfOtherProgrammesDoNotMatter() {
        RadioWeek x = with(LIVE, 10);
        x.addProgramme(RECORDED, 10, 0);
        x.addRight(0, 100, 110, 5);
        x.addRight(1, 0, 10080, 5);
        x.place(0, 100, false);
        x.runOver(0, 1);
        usesAre("the live item left its window", x, NONE);
        due.is("another programme is placed", x.place(1, 200, false), 1);
        due.is("another programme is placed before it", x.place(1, 50, false), 0);
        due.is("this one is not", x.mayPlace(0, 300), RIGHT);
        usesAre("three items", x, 1, NONE, 1);
    }

    /** "with the new item the rights would be broken for some item of this programme" */
    private static void brokenByAnItemThatIsThere() {
        RadioWeek x = with(LIVE, 10);
        x.addRight(0, 100, 110, 1);
        x.addRight(0, 200, 220, 5);
        x.place(0, 100, false);
        due.is("within its window", x.mayPlace(0, 200), 0);
        x.runOver(0, 1);
        due.is("an item there has no right", x.mayPlace(0, 200), RIGHT);
        due.is("no start", x.earliest(0, 0), NONE);
        x.remove(0);
        due.is("it is gone", x.mayPlace(0, 200), 0);
        x.undo();
        due.is("it is there", x.mayPlace(0, 200), RIGHT);
        x.undo();
        due.is("it is as long as before", x.mayPlace(0, 200), 0);
        x.runOver(0, 1);
        x.addRight(0, 100, 111, 1);
        due.is("it has another right", x.mayPlace(0, 200), 0);
    }

    /** "If an item finds no such right, the rights are broken": the items after it still find theirs. */
    private static void anItemThatFindsNone() {
        RadioWeek x = with(LIVE, 10);
        x.addRight(0, 100, 115, 1);
        x.addRight(0, 200, 250, 2);
        x.place(0, 100, false);
        x.place(0, 200, false);
        usesAre("both find one", x, 0, 1);
        x.runOver(0, 5);
        usesAre("up to its end", x, 0, 1);
        x.runOver(0, 1);
        usesAre("over its end", x, NONE, 1);
        leftIs("over its end", x, 1, 1);
        x.runOver(1, 40);
        usesAre("the second up to its end", x, NONE, 1);
        x.runOver(1, 1);
        usesAre("the second over its end", x, NONE, NONE);
        leftIs("the second over its end", x, 1, 2);
    }

    /** A cut item may be covered by a right that did not cover it before. */
    private static void itsMinutesAreThoseItHasNow() {
        RadioWeek x = with(LIVE, 10);
        x.addProgramme(RECORDED, 20, 0);
        x.addRight(0, 0, 10080, 1);
        x.addRight(1, 0, 10080, 1);
        x.addRight(1, 115, 130, 1);
        x.place(0, 100, false);
        x.place(1, 110, true);
        usesAre("before", x, 0, 1);
        x.runOver(0, 4);
        usesAre("cut, but not enough", x, 0, 1);
        x.runOver(0, 1);
        usesAre("cut to the window", x, 0, 2);
        leftIs("cut to the window", x, 0, 1, 0);
        x.addRight(1, 115, 129, 1);
        usesAre("a window that ends a minute too early", x, 0, 2);
    }

    /** "(NONE for a filler...)", also if there is a right for it */
    private static void fillersUseNone() {
        RadioWeek x = with(FILLER, 10);
        x.addRight(0, 0, 10080, 1);
        due.is("the first", x.place(0, 100, false), 0);
        due.is("out of plays, but it needs none", x.place(0, 200, true), 1);
        due.is("fill()", x.fill(300, 310), 1);
        usesAre("three fillers", x, NONE, NONE, NONE);
        leftIs("three fillers", x, 1);
    }

    private static void aRightThatComesLater() {
        RadioWeek x = with(RECORDED, 10);
        x.addRight(0, 0, 10080, 1);
        x.place(0, 100, false);
        leftIs("one", x, 0);
        x.addRight(0, 0, 10079, 3);
        usesAre("it ends first", x, 1);
        leftIs("it ends first", x, 1, 2);
        due.is("undo()", x.undo(), 3);
        usesAre("as before", x, 0);
        leftIs("as before", x, 0);
    }
}
