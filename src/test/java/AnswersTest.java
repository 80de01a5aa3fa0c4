import java.util.Arrays;

/** Promises 11 to 21 and 23, what can be asked: each test tells its sentence of the document. */
public final class AnswersTest {
    private static final int BAD = -1;
    private static final int NONE = -9;

    private static final int RECORDED = 0;
    private static final int LIVE = 1;
    private static final int FILLER = 2;
    private static final int SPOT = 3;
    private static final int NOTHING = 4;

    private static final Due due = new Due("AnswersTest");

    public static void main(String[] args) {
        promise11NoneOneAll();
        promise12Programme();
        promise12AfterRunningOver();
        promise12Right();
        promise13FirstAndLastMinute();
        promise13SideBySide();
        promise14NoneToAll();
        promise14WithRightsBroken();
        promise15AsPlace();
        promise16NoneOneMany();
        promise17NothingOnAir();
        promise17EachKind();
        promise17EdgesOfAnItem();
        promise17MinuteByMinute();
        promise17AfterRemoving();
        promise18NothingOnAir();
        promise18TheFirstOfSeveral();
        promise18EdgesOfTheInterval();
        promise18EdgesOfTheWeek();
        promise18NoSilence();
        promise18MinuteByMinute();
        promise19NoneOneSixteen();
        promise19GreatestFirst();
        promise19EqualNumbers();
        promise19MinutesOnAirNow();
        promise20NoneOneAll();
        promise20ByRunningOver();
        promise20ByRating();
        promise21Days();
        promise21HoursAndMinutes();
        promise21Lengths();
        promise21Programmes();
        promise21Fixed();
        promise21AfterItsEnd();
        promise23Empty();
        promise23EachNumber();
        promise23Overflow();
        due.end();
    }

    /** A programme of each kind, as long as said, with a right for all the week. */
    private static RadioWeek kinds(int recorded, int live, int filler, int spot) {
        RadioWeek x = new RadioWeek();
        int[] lengths = {recorded, live, filler, spot};
        for (int kind = 0; kind < 4; kind++) {
            x.addProgramme(kind, lengths[kind], 0);
            x.addRight(kind, 0, 10080, 50);
        }
        return x;
    }

    private static void promise11NoneOneAll() {
        RadioWeek x = kinds(10, 10, 10, 10);
        due.is("none", x.items(), 0);
        for (int i = 0; i < 60; i++) {
            x.place(i % 4, 100 * i, false);
            due.is("items()", x.items(), i + 1);
        }
        x.place(2, 9000, false);
        due.is("a refused one does not count", x.items(), 60);
        for (int i = 59; i >= 0; i--) {
            x.remove(i / 2);
            due.is("items()", x.items(), i);
        }
        x.remove(0);
        due.is("none", x.items(), 0);
    }

    /** "what: 0 its programme, 1 its start, 2 its length, 3 1 if it is fixed, otherwise 0" */
    private static void promise12Programme() {
        RadioWeek x = new RadioWeek();
        for (int p = 0; p < 16; p++) {
            x.addProgramme(FILLER, 240 - p, 0);
        }
        for (int p = 0; p < 16; p++) {
            x.place(p, 600 * (15 - p), p % 3 == 0);
        }
        for (int i = 0; i < 16; i++) {
            int p = 15 - i;
            due.is("its programme", x.item(i, 0), p);
            due.is("its start", x.item(i, 1), 600 * i);
            due.is("its length", x.item(i, 2), 240 - p);
            due.is("whether it is fixed", x.item(i, 3), p % 3 == 0 ? 1 : 0);
            due.is("its right", x.item(i, 4), NONE);
            due.is("nothing before", x.item(i, -1), BAD);
            due.is("nothing behind", x.item(i, 5), BAD);
        }
    }

    /** They are the item's, not the programme's. */
    private static void promise12AfterRunningOver() {
        RadioWeek x = kinds(10, 10, 10, 10);
        x.place(1, 100, false);
        x.place(0, 110, false);
        x.place(3, 120, true);
        x.runOver(0, 3);
        int[][] want = {{1, 100, 13, 0, 1}, {0, 113, 10, 0, 0}, {3, 123, 7, 1, 3}};
        for (int i = 0; i < 3; i++) {
            for (int what = 0; what <= 4; what++) {
                due.is("item(" + i + ", " + what + ")", x.item(i, what), want[i][what]);
            }
        }
        x.place(1, 200, false);
        due.is("the programme's length is as before", x.item(3, 2), 10);
    }

    /** "4 the right that it uses (NONE for a filler, or if it finds none)" */
    private static void promise12Right() {
        RadioWeek x = new RadioWeek();
        x.addProgramme(LIVE, 10, 0);
        x.addProgramme(FILLER, 10, 0);
        x.addRight(1, 0, 10080, 1);
        x.addRight(0, 100, 115, 1);
        x.place(0, 100, false);
        x.place(1, 200, false);
        due.is("its right", x.item(0, 4), 1);
        due.is("a filler", x.item(1, 4), NONE);
        x.runOver(0, 5);
        due.is("up to the end of the window", x.item(0, 4), 1);
        x.runOver(0, 1);
        due.is("over the end of the window", x.item(0, 4), NONE);
        x.addRight(0, 100, 116, 1);
        due.is("another right", x.item(0, 4), 2);
    }

    /** "Returns the number of the item; NONE if nothing is on air." */
    private static void promise13FirstAndLastMinute() {
        RadioWeek x = kinds(10, 30, 1, 240);
        due.is("nothing is there", x.onAir(5000), NONE);
        x.place(2, 0, false);
        x.place(0, 100, false);
        x.place(1, 200, true);
        x.place(3, 9840, false);
        int[][] want = {{0, 0}, {1, NONE}, {99, NONE}, {100, 1}, {109, 1}, {110, NONE}, {199, NONE}, {200, 2},
            {229, 2}, {230, NONE}, {9839, NONE}, {9840, 3}, {10079, 3}};
        for (int[] w : want) {
            due.is("onAir(" + w[0] + ")", x.onAir(w[0]), w[1]);
        }
        x.remove(1);
        due.is("its minutes are silent", x.onAir(105), NONE);
        due.is("the next one's number", x.onAir(200), 1);
        x.remove(2);
        due.is("the last one's minutes are silent", x.onAir(9840), NONE);
    }

    private static void promise13SideBySide() {
        RadioWeek x = kinds(1, 2, 3, 4);
        int start = 1000;
        for (int i = 0; i < 60; i++) {
            x.place(i % 4, start, false);
            start += i % 4 + 1;
        }
        due.is("before all", x.onAir(999), NONE);
        due.is("behind all", x.onAir(start), NONE);
        for (int t = 1000; t < start; t++) {
            int[] ofTen = {0, 1, 1, 2, 2, 2, 3, 3, 3, 3};
            due.is("onAir(" + t + ")", x.onAir(t), (t - 1000) / 10 * 4 + ofTen[(t - 1000) % 10]);
        }
    }

    private static void promise14NoneToAll() {
        RadioWeek x = new RadioWeek();
        x.addProgramme(SPOT, 10, 0);
        x.addRight(0, 0, 1000, 3);
        x.addRight(0, 500, 2000, 1);
        int[][] want = {{3, 1}, {2, 1}, {1, 1}, {0, 1}, {0, 0}};
        for (int i = 0; i < 5; i++) {
            due.is("left(0) with " + i, x.left(0), want[i][0]);
            due.is("left(1) with " + i, x.left(1), want[i][1]);
            due.is("one more", x.place(0, 600 + 20 * i, false), i < 4 ? i : -5);
        }
        due.is("undo()", x.undo(), 4);
        due.is("left(1)", x.left(1), 1);
        x.addProgramme(SPOT, 10, 0);
        x.addRight(1, 0, 10080, 50);
        due.is("another programme's right", x.left(2), 50);
        x.place(1, 100, false);
        due.is("its own item", x.left(2), 49);
        due.is("nothing of the others", x.left(0), 0);
    }

    /** An item that finds no right uses none, and no right has less than 0 left. */
    private static void promise14WithRightsBroken() {
        RadioWeek x = new RadioWeek();
        x.addProgramme(LIVE, 10, 0);
        x.addRight(0, 100, 110, 1);
        x.addRight(0, 200, 400, 1);
        x.addRight(0, 200, 300, 1);
        x.place(0, 100, false);
        x.place(0, 200, false);
        x.place(0, 290, false);
        leftIs("each has its own", x, 0, 0, 0);
        x.runOver(0, 1);
        leftIs("the first left its window", x, 1, 0, 0);
        due.is("the third can't be pushed", x.runOver(1, 90), 1);
        leftIs("the third is dropped", x, 1, 1, 0);
        x.runOver(1, 1);
        leftIs("the second left one of two windows", x, 1, 0, 1);
        x.runOver(1, 99);
        leftIs("up to the end of the other", x, 1, 0, 1);
        x.runOver(1, 1);
        leftIs("the second left both", x, 1, 1, 1);
    }

    private static void leftIs(String when, RadioWeek x, int... plays) {
        for (int r = 0; r < plays.length; r++) {
            due.is(when + ": left(" + r + ")", x.left(r), plays[r]);
        }
    }

    /** "Tells what placing a programme would return, without doing it." "0 if it is possible" */
    private static void promise15AsPlace() {
        int[] answers = new int[10];
        for (int p = 0; p <= 4; p++) {
            for (int start = 0; start < 1000; start += 7) {
                RadioWeek x = kinds(10, 30, 7, 15);
                x.addBlackout(400, 500, 0);
                x.addRight(3, 600, 700, 1);
                x.addProgramme(SPOT, 5, 0);
                x.addRight(4, 100, 450, 1);
                x.place(0, 200, true);
                x.place(2, 300, false);
                x.place(1, 350, false);
                long print = x.fingerprint();
                int told = x.mayPlace(p, start);
                due.is("nothing is done", x.fingerprint(), print);
                int placed = x.place(p, start, false);
                due.is("mayPlace(" + p + ", " + start + ")", told, Math.min(placed, 0));
                answers[-told]++;
            }
        }
        int[] asked = {0, 4, 5, 6};
        for (int a : asked) {
            due.holds("some answers were " + -a, answers[a] > 10);
        }
    }

    private static void promise16NoneOneMany() {
        RadioWeek x = kinds(10, 30, 5, 1);
        x.place(1, 100, false);
        for (int i = 0; i < 50; i++) {
            x.place(3, 130 + i, true);
        }
        for (int minutes = 0; minutes < 50; minutes++) {
            due.is("owed(3) after " + minutes, x.owed(3), minutes);
            due.is("one more", x.runOver(0, 1), 1);
        }
        due.is("owed(3)", x.owed(3), 50);
        for (int p = 0; p < 3; p++) {
            due.is("owed(" + p + ")", x.owed(p), 0);
        }
    }

    private static void promise17NothingOnAir() {
        RadioWeek x = new RadioWeek();
        for (int kind = 0; kind <= 3; kind++) {
            due.is("kind " + kind + " of nothing", x.minutes(kind, 0, 10080), 0);
        }
        due.is("all the week", x.minutes(NOTHING, 0, 10080), 10080);
        due.is("one minute", x.minutes(NOTHING, 10079, 10080), 1);
        due.is("no minute", x.minutes(NOTHING, 10079, 10079), BAD);
    }

    /** "kind: 0 to 3, or 4 for nothing" */
    private static void promise17EachKind() {
        RadioWeek x = kinds(10, 30, 7, 2);
        int[] want = {20, 60, 14, 4};
        for (int kind = 0; kind < 4; kind++) {
            x.place(kind, 1000 * kind, false);
            x.place(kind, 1000 * kind + 500, true);
            due.is("kind " + kind, x.minutes(kind, 0, 10080), want[kind]);
        }
        due.is("nothing", x.minutes(NOTHING, 0, 10080), 10080 - 98);
        x.addProgramme(FILLER, 3, 0);
        x.place(4, 9000, false);
        due.is("two programmes of a kind", x.minutes(FILLER, 0, 10080), 17);
    }

    private static void promise17EdgesOfAnItem() {
        RadioWeek x = kinds(10, 30, 7, 2);
        x.place(0, 100, false);
        int[][] want = {{99, 100, 0}, {99, 101, 1}, {100, 101, 1}, {100, 109, 9}, {100, 110, 10}, {100, 111, 10},
            {99, 110, 10}, {101, 110, 9}, {109, 110, 1}, {109, 111, 1}, {110, 111, 0}, {104, 106, 2}, {0, 10080, 10},
            {0, 100, 0}, {110, 10080, 0}};
        for (int[] w : want) {
            String of = ", " + w[0] + ", " + w[1] + ")";
            due.is("minutes(0" + of, x.minutes(RECORDED, w[0], w[1]), w[2]);
            due.is("minutes(4" + of, x.minutes(NOTHING, w[0], w[1]), w[1] - w[0] - w[2]);
            due.is("minutes(1" + of, x.minutes(LIVE, w[0], w[1]), 0);
            due.is("minutes(2" + of, x.minutes(FILLER, w[0], w[1]), 0);
            due.is("minutes(3" + of, x.minutes(SPOT, w[0], w[1]), 0);
        }
    }

    private static RadioWeek mixed() {
        RadioWeek x = kinds(4, 6, 3, 2);
        int[][] placed = {{0, 0}, {1, 4}, {2, 12}, {3, 15}, {3, 19}, {0, 23}, {2, 27}, {1, 34}};
        for (int[] p : placed) {
            x.place(p[0], p[1], false);
        }
        return x;
    }

    /** The kinds on air from 0 to 40: . for nothing. */
    private static final String MIXED = "0000" + "111111" + ".." + "222" + "33" + ".." + "33" + ".." + "0000" + "222"
            + "...." + "111111";

    private static void promise17MinuteByMinute() {
        for (int from = 0; from < 42; from++) {
            RadioWeek x = mixed();
            for (int to = from + 1; to <= 43; to++) {
                int[] number = new int[5];
                for (int t = from; t < to; t++) {
                    char kind = t < MIXED.length() ? MIXED.charAt(t) : '.';
                    number[kind == '.' ? NOTHING : kind - '0']++;
                }
                for (int kind = 0; kind <= 4; kind++) {
                    due.is("minutes(" + kind + ", " + from + ", " + to + ")", x.minutes(kind, from, to), number[kind]);
                }
            }
        }
    }

    private static void promise17AfterRemoving() {
        RadioWeek x = kinds(10, 30, 7, 2);
        x.place(0, 100, false);
        x.place(1, 200, false);
        x.runOver(1, 5);
        due.is("after running over", x.minutes(LIVE, 0, 10080), 35);
        x.remove(1);
        due.is("after removing", x.minutes(LIVE, 0, 10080), 0);
        due.is("after removing, nothing", x.minutes(NOTHING, 0, 10080), 10070);
        due.is("after removing, the other", x.minutes(RECORDED, 0, 10080), 10);
        due.is("after removing, silence", x.silence(0, 10080), 10081 * 9970 + 110);
        due.is("after removing, ranked(0)", x.ranked(0), 0);
        x.addBlackout(0, 1440, 0);
        due.is("after removing, broken()", x.broken(), 1);
    }

    private static int silent(int minutes, int beginning) {
        return 10081 * minutes + beginning;
    }

    private static void promise18NothingOnAir() {
        RadioWeek x = new RadioWeek();
        due.is("all the week", x.silence(0, 10080), silent(10080, 0));
        due.is("the first minute", x.silence(0, 1), silent(1, 0));
        due.is("the last minute", x.silence(10079, 10080), silent(1, 10079));
        due.is("some of it", x.silence(300, 500), silent(200, 300));
    }

    /** "the longest interval without items in it, ... of several the first" */
    private static void promise18TheFirstOfSeveral() {
        RadioWeek x = kinds(10, 30, 7, 2);
        for (int i = 0; i < 5; i++) {
            x.place(0, 100 + 20 * i, false);
        }
        due.is("four of ten minutes", x.silence(100, 190), silent(10, 110));
        due.is("five of ten minutes", x.silence(90, 190), silent(10, 90));
        due.is("the last one is a minute longer", x.silence(90, 201), silent(11, 190));
        due.is("the first one is a minute longer", x.silence(89, 200), silent(11, 89));
        x.remove(2);
        due.is("one of thirty minutes", x.silence(90, 200), silent(30, 130));
        x.place(3, 130, false);
        due.is("one of 28 minutes", x.silence(90, 200), silent(28, 132));
        RadioWeek y = kinds(10, 30, 7, 2);
        y.place(0, 5, false);
        y.place(0, 21, false);
        due.is("5, then 6", y.silence(0, 31), silent(6, 15));
        due.is("5, then 5", y.silence(0, 20), silent(5, 0));
        due.is("5, 6, then 6", y.silence(0, 37), silent(6, 15));
        due.is("5, 6, then 7", y.silence(0, 38), silent(7, 31));
    }

    /** "without items in it": of an interval that an item crosses only its own minutes count. */
    private static void promise18EdgesOfTheInterval() {
        RadioWeek x = kinds(10, 30, 7, 2);
        x.place(0, 100, false);
        x.place(0, 200, false);
        int[][] want = {{100, 110, NONE}, {100, 111, silent(1, 110)}, {99, 110, silent(1, 99)}, {99, 111, silent(1, 99)},
            {109, 111, silent(1, 110)}, {110, 200, silent(90, 110)}, {109, 201, silent(90, 110)},
            {111, 199, silent(88, 111)}, {105, 205, silent(90, 110)}, {150, 151, silent(1, 150)},
            {199, 200, silent(1, 199)}, {199, 201, silent(1, 199)}, {200, 201, NONE}, {209, 210, NONE},
            {209, 212, silent(2, 210)}, {0, 210, silent(100, 0)}, {1, 210, silent(99, 1)}, {20, 250, silent(90, 110)},
            {10, 210, silent(90, 10)}, {11, 210, silent(90, 110)}};
        for (int[] w : want) {
            due.is("silence(" + w[0] + ", " + w[1] + ")", x.silence(w[0], w[1]), w[2]);
        }
    }

    private static void promise18EdgesOfTheWeek() {
        RadioWeek x = kinds(240, 240, 1, 240);
        x.place(2, 0, false);
        due.is("behind the first minute", x.silence(0, 10080), silent(10079, 1));
        x.place(2, 10079, false);
        due.is("before the last minute", x.silence(0, 10080), silent(10078, 1));
        due.is("the first minute", x.silence(0, 1), NONE);
        due.is("the last minute", x.silence(10079, 10080), NONE);
        x.remove(0);
        due.is("from the first minute on", x.silence(0, 10080), silent(10079, 0));
    }

    /** "NONE if there is no minute without an item" */
    private static void promise18NoSilence() {
        RadioWeek x = kinds(10, 30, 7, 2);
        x.place(0, 100, false);
        x.place(2, 110, false);
        x.place(3, 117, false);
        due.is("three items", x.silence(100, 119), NONE);
        due.is("a part of them", x.silence(105, 118), NONE);
        due.is("a minute before", x.silence(99, 119), silent(1, 99));
        due.is("a minute behind", x.silence(100, 120), silent(1, 119));
        x.remove(1);
        due.is("a gap", x.silence(100, 119), silent(7, 110));
        x.fill(110, 117);
        due.is("filled", x.silence(100, 119), NONE);
    }

    private static void promise18MinuteByMinute() {
        for (int from = 0; from < 42; from++) {
            RadioWeek x = mixed();
            for (int to = from + 1; to <= 45; to++) {
                int longest = 0;
                int beginning = 0;
                int length = 0;
                for (int t = from; t < to; t++) {
                    length = t >= MIXED.length() || MIXED.charAt(t) == '.' ? length + 1 : 0;
                    if (length > longest) {
                        longest = length;
                        beginning = t + 1 - length;
                    }
                }
                due.is("silence(" + from + ", " + to + ")", x.silence(from, to),
                        longest == 0 ? NONE : silent(longest, beginning));
            }
        }
    }

    private static void rankedAre(String when, RadioWeek x, int... programmes) {
        for (int i = 0; i < programmes.length; i++) {
            due.is(when + ": ranked(" + i + ")", x.ranked(i), programmes[i]);
        }
        due.is(when + ": ranked(-1)", x.ranked(-1), BAD);
        due.is(when + ": ranked(" + programmes.length + ")", x.ranked(programmes.length), BAD);
    }

    /** "BAD if there is no such place" */
    private static void promise19NoneOneSixteen() {
        RadioWeek x = new RadioWeek();
        rankedAre("none", x);
        x.addProgramme(FILLER, 5, 0);
        rankedAre("one", x, 0);
        x.place(0, 100, false);
        rankedAre("one on air", x, 0);
        for (int p = 1; p < 16; p++) {
            x.addProgramme(FILLER, 5 + p, 0);
        }
        rankedAre("sixteen", x, 0, 1, 2, 3, 4, 5, 6, 7, 8, 9, 10, 11, 12, 13, 14, 15);
        for (int p = 1; p < 16; p++) {
            x.place(p, 100 + 100 * p, false);
        }
        rankedAre("sixteen on air", x, 15, 14, 13, 12, 11, 10, 9, 8, 7, 6, 5, 4, 3, 2, 1, 0);
    }

    /** "in the order of the minutes that they have on air in the whole week, the greatest number first" */
    private static void promise19GreatestFirst() {
        RadioWeek x = kinds(10, 30, 7, 2);
        rankedAre("nothing on air", x, 0, 1, 2, 3);
        x.place(3, 10078, false);
        rankedAre("at the week's end", x, 3, 0, 1, 2);
        x.place(2, 0, false);
        rankedAre("at the week's beginning", x, 2, 3, 0, 1);
        for (int i = 0; i < 3; i++) {
            x.place(3, 100 + 2 * i, false);
        }
        rankedAre("eight minutes and seven", x, 3, 2, 0, 1);
        x.place(1, 200, false);
        x.place(0, 300, false);
        rankedAre("all", x, 1, 0, 3, 2);
        x.place(0, 310, false);
        x.place(0, 320, false);
        rankedAre("thirty each", x, 0, 1, 3, 2);
        x.place(0, 330, false);
        rankedAre("forty", x, 0, 1, 3, 2);
    }

    /** "those with equal numbers by their numbers" */
    private static void promise19EqualNumbers() {
        RadioWeek x = new RadioWeek();
        int[] lengths = {6, 3, 2, 1, 6};
        for (int length : lengths) {
            x.addProgramme(FILLER, length, 0);
        }
        for (int p = 4; p >= 0; p--) {
            for (int i = 0; i < 6 / lengths[p]; i++) {
                x.place(p, 1000 - 100 * p + 10 * i, false);
            }
        }
        rankedAre("six minutes each", x, 0, 1, 2, 3, 4);
        x.remove(x.onAir(700));
        rankedAre("five minutes of the fourth", x, 0, 1, 2, 4, 3);
        x.remove(x.onAir(1000));
        rankedAre("none of the first", x, 1, 2, 4, 3, 0);
    }

    private static void promise19MinutesOnAirNow() {
        RadioWeek x = kinds(10, 10, 10, 10);
        x.place(0, 100, false);
        x.place(1, 200, false);
        x.place(0, 210, true);
        rankedAre("twenty and ten", x, 0, 1, 2, 3);
        x.runOver(1, 5);
        rankedAre("15 and 15", x, 0, 1, 2, 3);
        x.runOver(1, 1);
        rankedAre("14 and 16", x, 1, 0, 2, 3);
        x.undo();
        rankedAre("15 and 15 again", x, 0, 1, 2, 3);
    }

    private static void promise20NoneOneAll() {
        RadioWeek x = kinds(10, 10, 10, 10);
        due.is("without items and blackouts", x.broken(), 0);
        x.addBlackout(0, 1440, 0);
        due.is("without items", x.broken(), 0);
        x.undo();
        for (int i = 0; i < 60; i++) {
            x.place(i % 4, 10 * i, false);
        }
        due.is("without blackouts", x.broken(), 0);
        x.addBlackout(600, 1440, 0);
        due.is("behind them all", x.broken(), 0);
        x.addBlackout(599, 600, 0);
        due.is("the last minute", x.broken(), 1);
        x.addBlackout(0, 1, 0);
        due.is("the first minute", x.broken(), 2);
        x.addBlackout(9, 11, 0);
        due.is("two minutes of two", x.broken(), 3);
        x.addBlackout(0, 600, 0);
        due.is("all", x.broken(), 60);
        x.undo();
        due.is("three again", x.broken(), 3);
    }

    /** "(for instance because it was added later, or because they ran over into it)" */
    private static void promise20ByRunningOver() {
        RadioWeek x = kinds(10, 10, 10, 10);
        x.addBlackout(115, 120, 0);
        x.place(1, 100, false);
        x.runOver(0, 5);
        due.is("up to it", x.broken(), 0);
        x.runOver(0, 1);
        due.is("into it", x.broken(), 1);
        x.runOver(0, 60);
        due.is("through it", x.broken(), 1);
        x.remove(0);
        due.is("removed", x.broken(), 0);
        RadioWeek y = kinds(10, 10, 10, 10);
        y.place(1, 100, false);
        y.place(0, 110, true);
        y.addBlackout(112, 113, 0);
        due.is("a fixed one is in it", y.broken(), 1);
        y.runOver(0, 3);
        due.is("it is cut out of it, but the live one is in it", y.broken(), 1);
        due.is("the length of the cut one", y.item(1, 2), 7);
    }

    private static void promise20ByRating() {
        for (int blackout = 0; blackout <= 3; blackout++) {
            RadioWeek x = new RadioWeek();
            for (int rating = 0; rating <= 3; rating++) {
                x.addProgramme(FILLER, 10, rating);
                x.place(rating, 100 * rating, false);
            }
            x.addBlackout(0, 1440, blackout);
            due.is("blackout " + blackout, x.broken(), 4 - blackout);
        }
    }

    private static void lineIs(RadioWeek x, int item, String line) {
        StringBuilder got = new StringBuilder();
        for (int sign = x.line(item, 0); sign >= 0 && got.length() < 40; sign = x.line(item, got.length())) {
            got.append((char) sign);
        }
        due.holds("line " + item + " is '" + line + "', not '" + got + "'", line.contentEquals(got));
        due.is("behind " + line, x.line(item, line.length()), NONE);
        due.is("before " + line, x.line(item, -1), BAD);
    }

    /** "the digit of the day from 0" */
    private static void promise21Days() {
        RadioWeek x = kinds(10, 30, 1, 2);
        for (int day = 0; day < 7; day++) {
            x.place(2, 1440 * day, false);
            x.place(2, 1440 * day + 1439, true);
        }
        for (int day = 0; day < 7; day++) {
            lineIs(x, 2 * day, day + " 00:00 +1 P2");
            lineIs(x, 2 * day + 1, day + " 23:59 +1 P2!");
        }
    }

    /** "two digits of the hour, ":", two digits of the minute" */
    private static void promise21HoursAndMinutes() {
        RadioWeek x = kinds(10, 30, 1, 2);
        int[] starts = {1, 9, 10, 59, 60, 61, 9 * 60 + 9, 9 * 60 + 59, 10 * 60, 19 * 60 + 19, 20 * 60, 23 * 60, 23 * 60 + 50};
        String[] clocks = {"00:01", "00:09", "00:10", "00:59", "01:00", "01:01", "09:09", "09:59", "10:00", "19:19",
            "20:00", "23:00", "23:50"};
        for (int start : starts) {
            x.place(2, 2880 + start, false);
        }
        for (int i = 0; i < starts.length; i++) {
            lineIs(x, i, "2 " + clocks[i] + " +1 P2");
        }
    }

    /** "and the length", "(numbers without leading zeros but for hour and minute)" */
    private static void promise21Lengths() {
        int[] lengths = {1, 9, 10, 11, 99, 100, 101, 200, 239, 240};
        for (int length : lengths) {
            RadioWeek x = new RadioWeek();
            x.addProgramme(FILLER, length, 0);
            x.place(0, 100, true);
            lineIs(x, 0, "0 01:40 +" + length + " P0!");
        }
        RadioWeek y = kinds(10, 240, 1, 2);
        y.place(1, 0, true);
        for (int i = 0; i < 82; i++) {
            y.runOver(0, 120);
            if (240 + 120 * (i + 1) == 960 || i == 81) {
                lineIs(y, 0, "0 00:00 +" + (240 + 120 * (i + 1)) + " P1!");
            }
        }
        RadioWeek z = kinds(10, 240, 1, 2);
        z.place(1, 0, false);
        for (int i = 0; i < 6; i++) {
            z.runOver(0, 120);
        }
        z.runOver(0, 39);
        lineIs(z, 0, "0 00:00 +999 P1");
        z.runOver(0, 1);
        lineIs(z, 0, "0 00:00 +1000 P1");
    }

    /** ""P" and the number of the programme" */
    private static void promise21Programmes() {
        RadioWeek x = new RadioWeek();
        for (int p = 0; p < 16; p++) {
            x.addProgramme(FILLER, 5, 0);
            x.place(p, 600 + 5 * p, false);
        }
        for (int p = 0; p < 16; p++) {
            int minute = 5 * p % 60;
            lineIs(x, p, "0 " + (p < 12 ? "10:" : "11:") + (minute < 10 ? "0" : "") + minute + " +5 P" + p);
        }
    }

    /** "and "!" if it is fixed", also after a longer line was asked for */
    private static void promise21Fixed() {
        RadioWeek x = kinds(100, 30, 1, 2);
        x.place(0, 0, true);
        x.place(2, 100, false);
        x.place(2, 101, true);
        lineIs(x, 0, "0 00:00 +100 P0!");
        lineIs(x, 1, "0 01:40 +1 P2");
        lineIs(x, 2, "0 01:41 +1 P2!");
        lineIs(x, 0, "0 00:00 +100 P0!");
        due.is("behind the shorter one", x.line(1, 14), NONE);
    }

    /** "NONE if the line is not so long" */
    private static void promise21AfterItsEnd() {
        RadioWeek x = kinds(10, 30, 1, 2);
        x.place(2, 0, false);
        int length = "0 00:00 +1 P2".length();
        due.is("the last character", x.line(0, length - 1), '2');
        int[] behind = {length, length + 1, 20, 1000, Integer.MAX_VALUE - 1, Integer.MAX_VALUE};
        for (int k : behind) {
            due.is("line(0, " + k + ")", x.line(0, k), NONE);
            due.is("line(1, " + k + ")", x.line(1, k), BAD);
        }
    }

    private static long print(long... numbers) {
        long print = 73;
        for (long number : numbers) {
            print = print * 31 + number;
        }
        return print;
    }

    private static void promise23Empty() {
        due.is("empty", new RadioWeek().fingerprint(), print(0, 0, 0, 0));
        due.is("empty", new RadioWeek().fingerprint(), 67417033L);
    }

    /** "the numbers of programmes, rights and blackouts; items(); for each item item() 0 to 4; ..." */
    private static void promise23EachNumber() {
        RadioWeek x = new RadioWeek();
        x.addProgramme(LIVE, 30, 3);
        due.is("a programme", x.fingerprint(), print(1, 0, 0, 0, 0));
        x.addBlackout(1000, 1100, 2);
        due.is("a blackout", x.fingerprint(), print(1, 0, 1, 0, 0));
        x.addRight(0, 0, 10080, 7);
        due.is("a right", x.fingerprint(), print(1, 1, 1, 0, 0, 7));
        x.addRight(0, 0, 10079, 5);
        due.is("two rights", x.fingerprint(), print(1, 2, 1, 0, 0, 7, 5));
        x.addProgramme(SPOT, 5, 0);
        x.addRight(1, 0, 500, 1);
        due.is("two programmes", x.fingerprint(), print(2, 3, 1, 0, 0, 0, 7, 5, 1));
        x.place(0, 100, false);
        due.is("an item", x.fingerprint(), print(2, 3, 1, 1, 0, 100, 30, 0, 1, 0, 0, 7, 4, 1));
        x.place(1, 130, true);
        due.is("two items", x.fingerprint(),
                print(2, 3, 1, 2, 0, 100, 30, 0, 1, 1, 130, 5, 1, 2, 0, 0, 7, 4, 0));
        x.runOver(0, 2);
        due.is("one is cut", x.fingerprint(), print(2, 3, 1, 2, 0, 100, 32, 0, 1, 1, 132, 3, 1, 2, 0, 0, 7, 4, 0));
        x.runOver(0, 3);
        due.is("one is owed", x.fingerprint(), print(2, 3, 1, 1, 0, 100, 35, 0, 1, 0, 1, 7, 4, 1));
        x.makeGood(1, 0);
        due.is("it is made good", x.fingerprint(),
                print(2, 3, 1, 2, 1, 0, 5, 0, 2, 0, 100, 35, 0, 1, 0, 0, 7, 4, 0));
        x.addProgramme(FILLER, 6, 0);
        x.fill(5, 11);
        due.is("a filler's right is NONE", x.fingerprint(),
                print(3, 3, 1, 3, 1, 0, 5, 0, 2, 2, 5, 6, 0, -9, 0, 100, 35, 0, 1, 0, 0, 0, 7, 4, 0));
    }

    /** "in long arithmetic with overflow": 73 times 31 to the 13th is more than a long holds. */
    private static void promise23Overflow() {
        RadioWeek x = new RadioWeek();
        long[] numbers = new long[4 + 16 + 30];
        for (int p = 0; p < 16; p++) {
            x.addProgramme(p % 4, 10, 0);
            numbers[0] = p + 1;
            due.is((p + 1) + " programmes", x.fingerprint(), print(Arrays.copyOf(numbers, 5 + p)));
        }
        for (int r = 0; r < 30; r++) {
            x.addRight(r % 16, r, 10080 - r, 50 - r);
            numbers[1] = r + 1;
            numbers[20 + r] = 50 - r;
            due.is((r + 1) + " rights", x.fingerprint(), print(Arrays.copyOf(numbers, 21 + r)));
        }
        for (int b = 0; b < 10; b++) {
            x.addBlackout(b, b + 1, 0);
            numbers[2] = b + 1;
            due.is((b + 1) + " blackouts", x.fingerprint(), print(numbers));
        }
    }
}
