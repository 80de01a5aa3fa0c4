import java.util.function.Consumer;

/**
 * "BAD if an argument is not in its range", "BAD if there is no such programme": for each argument of each
 * method the least and the greatest value that are allowed, the values next to them that are not, and the
 * least and the greatest int. A refused call changes nothing.
 */
public final class RangesTest {
    private static final int BAD = -1;
    private static final int CLASH = -4;
    private static final int NONE = -9;

    private static final Due due = new Due("RangesTest");
    private static final Refusals refused = new Refusals(due);

    private interface Call {
        long on(RadioWeek x, int value);
    }

    public static void main(String[] args) {
        promise2AddProgramme();
        promise3AddRight();
        promise4AddBlackout();
        promise5Place();
        promise6Remove();
        promise7Earliest();
        promise8Fill();
        promise9RunOver();
        promise10MakeGood();
        promise12Item();
        promise13OnAir();
        promise14Left();
        promise15MayPlace();
        promise16Owed();
        promise17Minutes();
        promise18Silence();
        promise19Ranked();
        promise21Line();
        due.end();
    }

    private static void outside(String name, Consumer<RadioWeek> making, Call call, long value) {
        if (value >= Integer.MIN_VALUE && value <= Integer.MAX_VALUE) {
            refused.is(name + " with " + value, making, x -> call.on(x, (int) value), BAD);
        }
    }

    /** No value is allowed, as there is nothing. */
    private static void none(String name, Consumer<RadioWeek> making, Call call) {
        long[] values = {Integer.MIN_VALUE, -1, 0, 1, Integer.MAX_VALUE};
        for (long value : values) {
            outside(name, making, call, value);
        }
    }

    private static void range(String name, Consumer<RadioWeek> making, Call call, int least, long atLeast,
            int greatest, long atGreatest) {
        due.is(name + " with its least, " + least, call.on(Refusals.made(making), least), atLeast);
        due.is(name + " with its greatest, " + greatest, call.on(Refusals.made(making), greatest), atGreatest);
        long[] values = {Integer.MIN_VALUE, Integer.MIN_VALUE + 1L, least - 1L, greatest + 1L,
            Integer.MAX_VALUE - 1L, Integer.MAX_VALUE};
        for (long value : values) {
            if (value < least || value > greatest) {
                outside(name, making, call, value);
            }
        }
    }

    private static void empty(RadioWeek x) {
        due.is("a new week", x.items(), 0);
    }

    /** A filler of one minute. */
    private static void filler(RadioWeek x) {
        x.addProgramme(2, 1, 0);
    }

    /** Sixteen fillers, of 1 to 16 minutes. */
    private static void fillers(RadioWeek x) {
        for (int p = 0; p < 16; p++) {
            x.addProgramme(2, p + 1, 0);
        }
    }

    /** One item, a filler at 100. */
    private static void oneItem(RadioWeek x) {
        filler(x);
        x.place(0, 100, false);
    }

    /** Sixty items: fillers at 100, 102, ..., 218. */
    private static void sixtyItems(RadioWeek x) {
        filler(x);
        for (int i = 0; i < 60; i++) {
            x.place(0, 100 + 2 * i, i % 2 == 1);
        }
    }

    /** Two live items of 30 minutes, at 100 and at 1000. */
    private static void liveItems(RadioWeek x) {
        x.addProgramme(1, 30, 0);
        x.addRight(0, 0, 10080, 2);
        x.place(0, 100, false);
        x.place(0, 1000, false);
    }

    /** Sixteen spots, of which the first and the last are owed a play. */
    private static void owedSpots(RadioWeek x) {
        x.addProgramme(3, 1, 0);
        x.addProgramme(1, 30, 0);
        for (int p = 2; p < 16; p++) {
            x.addProgramme(3, 1, 0);
        }
        x.addRight(0, 0, 10080, 2);
        x.addRight(1, 0, 10080, 2);
        x.addRight(15, 0, 10080, 2);
        x.place(1, 100, false);
        x.place(0, 130, true);
        x.place(15, 131, true);
        x.runOver(0, 2);
    }

    private static void promise2AddProgramme() {
        range("addProgramme(., 1, 0)", RangesTest::empty, (x, v) -> x.addProgramme(v, 1, 0), 0, 0, 3, 0);
        range("addProgramme(2, ., 0)", RangesTest::empty, (x, v) -> x.addProgramme(2, v, 0), 1, 0, 240, 0);
        range("addProgramme(2, 1, .)", RangesTest::empty, (x, v) -> x.addProgramme(2, 1, v), 0, 0, 3, 0);
        range("addProgramme(., 240, 3)", RangesTest::oneItem, (x, v) -> x.addProgramme(v, 240, 3), 0, 1, 3, 1);
        range("addProgramme(0, ., 3)", RangesTest::oneItem, (x, v) -> x.addProgramme(0, v, 3), 1, 1, 240, 1);
        range("addProgramme(3, 240, .)", RangesTest::oneItem, (x, v) -> x.addProgramme(3, 240, v), 0, 1, 3, 1);
    }

    private static void promise3AddRight() {
        none("addRight(., 0, 1, 1) without programmes", RangesTest::empty, (x, v) -> x.addRight(v, 0, 1, 1));
        range("addRight(., 0, 1, 1)", RangesTest::filler, (x, v) -> x.addRight(v, 0, 1, 1), 0, 0, 0, 0);
        range("addRight(., 0, 1, 1)", RangesTest::fillers, (x, v) -> x.addRight(v, 0, 1, 1), 0, 0, 15, 0);
        range("addRight(0, ., 10080, 1)", RangesTest::filler, (x, v) -> x.addRight(0, v, 10080, 1), 0, 0, 10079, 0);
        range("addRight(0, ., 500, 1)", RangesTest::filler, (x, v) -> x.addRight(0, v, 500, 1), 0, 0, 499, 0);
        range("addRight(0, ., 1, 1)", RangesTest::filler, (x, v) -> x.addRight(0, v, 1, 1), 0, 0, 0, 0);
        range("addRight(0, 0, ., 1)", RangesTest::filler, (x, v) -> x.addRight(0, 0, v, 1), 1, 0, 10080, 0);
        range("addRight(0, 500, ., 1)", RangesTest::filler, (x, v) -> x.addRight(0, 500, v, 1), 501, 0, 10080, 0);
        range("addRight(0, 10079, ., 1)", RangesTest::filler, (x, v) -> x.addRight(0, 10079, v, 1),
                10080, 0, 10080, 0);
        range("addRight(0, 0, 1, .)", RangesTest::filler, (x, v) -> x.addRight(0, 0, 1, v), 1, 0, 50, 0);
        none("addRight(0, 10080, ., 1)", RangesTest::filler, (x, v) -> x.addRight(0, 10080, v, 1));
        refused.is("addRight(0, 10080, 10081, 1)", RangesTest::filler, x -> x.addRight(0, 10080, 10081, 1), BAD);
        refused.is("addRight(0, 10080, 10080, 1)", RangesTest::filler, x -> x.addRight(0, 10080, 10080, 1), BAD);
    }

    private static void promise4AddBlackout() {
        range("addBlackout(., 1440, 0)", RangesTest::oneItem, (x, v) -> x.addBlackout(v, 1440, 0), 0, 0, 1439, 0);
        range("addBlackout(., 700, 0)", RangesTest::oneItem, (x, v) -> x.addBlackout(v, 700, 0), 0, 0, 699, 0);
        range("addBlackout(., 1, 0)", RangesTest::oneItem, (x, v) -> x.addBlackout(v, 1, 0), 0, 0, 0, 0);
        range("addBlackout(0, ., 0)", RangesTest::oneItem, (x, v) -> x.addBlackout(0, v, 0), 1, 0, 1440, 0);
        range("addBlackout(700, ., 0)", RangesTest::oneItem, (x, v) -> x.addBlackout(700, v, 0), 701, 0, 1440, 0);
        range("addBlackout(1439, ., 0)", RangesTest::oneItem, (x, v) -> x.addBlackout(1439, v, 0), 1440, 0, 1440, 0);
        range("addBlackout(0, 1440, .)", RangesTest::oneItem, (x, v) -> x.addBlackout(0, 1440, v), 0, 0, 3, 0);
        none("addBlackout(1440, ., 0)", RangesTest::oneItem, (x, v) -> x.addBlackout(1440, v, 0));
        refused.is("addBlackout(1440, 1441, 0)", RangesTest::oneItem, x -> x.addBlackout(1440, 1441, 0), BAD);
        refused.is("addBlackout(1440, 1440, 0)", RangesTest::oneItem, x -> x.addBlackout(1440, 1440, 0), BAD);
    }

    private static void promise5Place() {
        none("place(., 0, false) without programmes", RangesTest::empty, (x, v) -> x.place(v, 0, false));
        range("place(., 0, false)", RangesTest::filler, (x, v) -> x.place(v, 0, false), 0, 0, 0, 0);
        range("place(., 0, true)", RangesTest::fillers, (x, v) -> x.place(v, 0, true), 0, 0, 15, 0);
        range("place(0, ., false)", RangesTest::oneItem, (x, v) -> x.place(0, v, false), 0, 0, 10079, 1);
        range("place(0, ., true)", RangesTest::oneItem, (x, v) -> x.place(0, v, true), 0, 0, 10079, 1);
    }

    private static void promise6Remove() {
        none("remove(.) without items", RangesTest::fillers, (x, v) -> x.remove(v));
        range("remove(.) of one", RangesTest::oneItem, (x, v) -> x.remove(v), 0, 0, 0, 0);
        range("remove(.) of sixty", RangesTest::sixtyItems, (x, v) -> x.remove(v), 0, 59, 59, 59);
    }

    private static void promise7Earliest() {
        none("earliest(., 0) without programmes", RangesTest::empty, (x, v) -> x.earliest(v, 0));
        range("earliest(., 0)", RangesTest::filler, (x, v) -> x.earliest(v, 0), 0, 0, 0, 0);
        range("earliest(., 100)", RangesTest::fillers, (x, v) -> x.earliest(v, 100), 0, 100, 15, 100);
        range("earliest(0, .)", RangesTest::oneItem, (x, v) -> x.earliest(0, v), 0, 0, 10079, 10079);
    }

    /** "to: from + 1 to from + 240, at most 10080" */
    private static void promise8Fill() {
        Consumer<RadioWeek> making = x -> {
            x.addProgramme(2, 120, 0);
            x.addProgramme(2, 119, 0);
            x.addProgramme(2, 1, 0);
        };
        range("fill(., 10080)", making, (x, v) -> x.fill(v, 10080), 10080 - 240, 3, 10079, 1);
        range("fill(., 240)", making, (x, v) -> x.fill(v, 240), 0, 3, 239, 1);
        range("fill(., 1)", making, (x, v) -> x.fill(v, 1), 0, 1, 0, 1);
        range("fill(., 241)", making, (x, v) -> x.fill(v, 241), 1, 3, 240, 1);
        range("fill(0, .)", making, (x, v) -> x.fill(0, v), 1, 1, 240, 3);
        range("fill(5000, .)", making, (x, v) -> x.fill(5000, v), 5001, 1, 5240, 3);
        range("fill(9840, .)", making, (x, v) -> x.fill(9840, v), 9841, 1, 10080, 3);
        range("fill(9960, .)", making, (x, v) -> x.fill(9960, v), 9961, 1, 10080, 1);
        range("fill(10079, .)", making, (x, v) -> x.fill(10079, v), 10080, 1, 10080, 1);
        none("fill(10080, .)", making, (x, v) -> x.fill(10080, v));
        none("fill(-1, .)", making, (x, v) -> x.fill(-1, v));
        int[][] far = {{10080, 10080}, {10080, 10081}, {-1, 239}, {Integer.MIN_VALUE, Integer.MIN_VALUE + 1},
            {Integer.MAX_VALUE, Integer.MIN_VALUE}, {Integer.MAX_VALUE - 1, Integer.MAX_VALUE},
            {Integer.MIN_VALUE, Integer.MAX_VALUE}};
        for (int[] f : far) {
            refused.is("fill(" + f[0] + ", " + f[1] + ")", making, x -> x.fill(f[0], f[1]), BAD);
        }
    }

    private static void promise9RunOver() {
        none("runOver(., 1) without items", RangesTest::fillers, (x, v) -> x.runOver(v, 1));
        range("runOver(., 1)", RangesTest::liveItems, (x, v) -> x.runOver(v, 1), 0, 0, 1, 0);
        range("runOver(0, .)", RangesTest::liveItems, (x, v) -> x.runOver(0, v), 1, 0, 120, 0);
        range("runOver(1, .)", RangesTest::liveItems, (x, v) -> x.runOver(1, v), 1, 0, 120, 0);
    }

    private static void promise10MakeGood() {
        none("makeGood(., 0) without programmes", RangesTest::empty, (x, v) -> x.makeGood(v, 0));
        range("makeGood(., 0)", RangesTest::owedSpots, (x, v) -> x.makeGood(v, 0), 0, 0, 15, 0);
        range("makeGood(15, .)", RangesTest::owedSpots, (x, v) -> x.makeGood(15, v), 0, 0, 10079, 10079);
    }

    private static void promise12Item() {
        none("item(., 0) without items", RangesTest::fillers, (x, v) -> x.item(v, 0));
        range("item(., 1) of one", RangesTest::oneItem, (x, v) -> x.item(v, 1), 0, 100, 0, 100);
        for (int what = 0; what <= 4; what++) {
            int w = what;
            long[] first = {0, 100, 1, 0, NONE};
            long[] last = {0, 218, 1, 1, NONE};
            range("item(., " + w + ") of sixty", RangesTest::sixtyItems, (x, v) -> x.item(v, w), 0, first[w], 59, last[w]);
        }
        range("item(0, .)", RangesTest::oneItem, (x, v) -> x.item(0, v), 0, 0, 4, NONE);
        range("item(59, .)", RangesTest::sixtyItems, (x, v) -> x.item(59, v), 0, 0, 4, NONE);
    }

    private static void promise13OnAir() {
        range("onAir(.)", RangesTest::empty, (x, v) -> x.onAir(v), 0, NONE, 10079, NONE);
        Consumer<RadioWeek> both = x -> {
            filler(x);
            x.place(0, 0, false);
            x.place(0, 10079, false);
        };
        range("onAir(.)", both, (x, v) -> x.onAir(v), 0, 0, 10079, 1);
    }

    private static void rights(RadioWeek x, int number) {
        x.addProgramme(0, 1, 0);
        for (int r = 0; r < number; r++) {
            x.addRight(0, 0, 100, r + 1);
        }
    }

    private static void promise14Left() {
        none("left(.) without rights", RangesTest::fillers, (x, v) -> x.left(v));
        range("left(.) of one", x -> rights(x, 1), (x, v) -> x.left(v), 0, 1, 0, 1);
        range("left(.) of thirty", x -> rights(x, 30), (x, v) -> x.left(v), 0, 1, 29, 30);
    }

    private static void promise15MayPlace() {
        none("mayPlace(., 0) without programmes", RangesTest::empty, (x, v) -> x.mayPlace(v, 0));
        range("mayPlace(., 0)", RangesTest::filler, (x, v) -> x.mayPlace(v, 0), 0, 0, 0, 0);
        range("mayPlace(., 0)", RangesTest::fillers, (x, v) -> x.mayPlace(v, 0), 0, 0, 15, 0);
        range("mayPlace(0, .)", RangesTest::oneItem, (x, v) -> x.mayPlace(0, v), 0, 0, 10079, 0);
        range("mayPlace(1, .) of two minutes", RangesTest::fillers, (x, v) -> x.mayPlace(1, v), 0, 0, 10079, CLASH);
    }

    private static void promise16Owed() {
        none("owed(.) without programmes", RangesTest::empty, (x, v) -> x.owed(v));
        range("owed(.) of one", RangesTest::filler, (x, v) -> x.owed(v), 0, 0, 0, 0);
        range("owed(.) of sixteen", RangesTest::owedSpots, (x, v) -> x.owed(v), 0, 1, 15, 1);
    }

    private static void promise17Minutes() {
        range("minutes(., 0, 10080)", RangesTest::oneItem, (x, v) -> x.minutes(v, 0, 10080), 0, 0, 4, 10079);
        for (int kind = 0; kind <= 4; kind++) {
            int k = kind;
            long minute = k == 4 ? 1 : 0;
            range("minutes(" + k + ", ., 10080)", RangesTest::empty, (x, v) -> x.minutes(k, v, 10080),
                    0, 10080 * minute, 10079, minute);
            range("minutes(" + k + ", ., 5000)", RangesTest::empty, (x, v) -> x.minutes(k, v, 5000),
                    0, 5000 * minute, 4999, minute);
            range("minutes(" + k + ", 0, .)", RangesTest::empty, (x, v) -> x.minutes(k, 0, v),
                    1, minute, 10080, 10080 * minute);
            range("minutes(" + k + ", 5000, .)", RangesTest::empty, (x, v) -> x.minutes(k, 5000, v),
                    5001, minute, 10080, 5080 * minute);
            range("minutes(" + k + ", 10079, .)", RangesTest::empty, (x, v) -> x.minutes(k, 10079, v),
                    10080, minute, 10080, minute);
            none("minutes(" + k + ", 10080, .)", RangesTest::oneItem, (x, v) -> x.minutes(k, 10080, v));
        }
    }

    private static void promise18Silence() {
        range("silence(., 10080)", RangesTest::empty, (x, v) -> x.silence(v, 10080),
                0, 10081 * 10080, 10079, 10081 + 10079);
        range("silence(., 5000)", RangesTest::empty, (x, v) -> x.silence(v, 5000), 0, 10081 * 5000, 4999, 10081 + 4999);
        range("silence(0, .)", RangesTest::empty, (x, v) -> x.silence(0, v), 1, 10081, 10080, 10081 * 10080);
        range("silence(5000, .)", RangesTest::empty, (x, v) -> x.silence(5000, v),
                5001, 10081 + 5000, 10080, 10081 * 5080 + 5000);
        range("silence(10079, .)", RangesTest::empty, (x, v) -> x.silence(10079, v),
                10080, 10081 + 10079, 10080, 10081 + 10079);
        none("silence(10080, .)", RangesTest::oneItem, (x, v) -> x.silence(10080, v));
        refused.is("silence(10080, 10081)", RangesTest::oneItem, x -> x.silence(10080, 10081), BAD);
        refused.is("silence(10080, 10080)", RangesTest::oneItem, x -> x.silence(10080, 10080), BAD);
    }

    private static void promise19Ranked() {
        none("ranked(.) without programmes", RangesTest::empty, (x, v) -> x.ranked(v));
        range("ranked(.) of one", RangesTest::filler, (x, v) -> x.ranked(v), 0, 0, 0, 0);
        range("ranked(.) of sixteen", RangesTest::fillers, (x, v) -> x.ranked(v), 0, 0, 15, 15);
    }

    private static void promise21Line() {
        none("line(., 0) without items", RangesTest::fillers, (x, v) -> x.line(v, 0));
        range("line(., 0) of one", RangesTest::oneItem, (x, v) -> x.line(v, 0), 0, '0', 0, '0');
        range("line(., 5) of sixty", RangesTest::sixtyItems, (x, v) -> x.line(v, 5), 0, '4', 59, '3');
        // "0 01:40 +1 P0" has thirteen characters.
        range("line(0, .)", RangesTest::oneItem, (x, v) -> x.line(0, v), 0, '0', Integer.MAX_VALUE, NONE);
        range("line(0, .)", RangesTest::oneItem, (x, v) -> x.line(0, v), 0, '0', 12, '0', NONE);
    }

    /** As above, but what is beyond the greatest value is answered otherwise than by BAD. */
    private static void range(String name, Consumer<RadioWeek> making, Call call, int least, long atLeast,
            int greatest, long atGreatest, long beyond) {
        range(name, making, call, least, atLeast, Integer.MAX_VALUE, beyond);
        due.is(name + " with " + greatest, call.on(Refusals.made(making), greatest), atGreatest);
        due.is(name + " with " + (greatest + 1), call.on(Refusals.made(making), greatest + 1), beyond);
    }
}
