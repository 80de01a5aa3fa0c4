/** Promises 11 to 21: what can be asked of a week. */
public final class AskingTest {
    private static final Due due = new Due("AskingTest");

    public static void main(String[] args) {
        promise11Items();
        promise12Item();
        promise12RightsInUse();
        promise13OnAir();
        promise14Left();
        promise15MayPlace();
        promise16Owed();
        promise17Minutes();
        promise18Silence();
        promise19Ranked();
        promise20Broken();
        promise21Line();
        askingIsNoAct();
        due.end();
    }

    /** 0 recorded of 10, 1 live of 30, 2 filler of 7, 3 spot of 2; a right for each but the filler. */
    private static RadioWeek fourProgrammes() {
        RadioWeek x = new RadioWeek();
        int[] lengths = {10, 30, 7, 2};
        for (int kind = 0; kind <= 3; kind++) {
            x.addProgramme(kind, lengths[kind], kind);
        }
        x.addRight(0, 0, 10080, 50);
        x.addRight(1, 0, 10080, 50);
        x.addRight(3, 0, 10080, 50);
        return x;
    }

    private static void promise11Items() {
        RadioWeek x = fourProgrammes();
        due.is("items()", x.items(), 0);
        x.place(0, 100, false);
        due.is("items()", x.items(), 1);
        due.is("fill(0, 7)", x.fill(0, 7), 1);
        due.is("items()", x.items(), 2);
        x.remove(0);
        due.is("items()", x.items(), 1);
        x.undo();
        due.is("items()", x.items(), 2);
    }

    private static void promise12Item() {
        RadioWeek x = fourProgrammes();
        due.is("item(0, 0)", x.item(0, 0), -1);
        x.place(1, 200, true);
        x.place(2, 100, false);
        x.runOver(1, 5);
        int[][] want = {{2, 100, 7, 0, -9}, {1, 200, 35, 1, 1}};
        for (int item = 0; item < 2; item++) {
            for (int what = 0; what < 5; what++) {
                due.is("item(" + item + ", " + what + ")", x.item(item, what), want[item][what]);
            }
        }
        int[][] bad = {{-1, 0}, {2, 0}, {0, -1}, {0, 5}, {Integer.MAX_VALUE, 4}, {Integer.MIN_VALUE, 4},
            {0, Integer.MAX_VALUE}, {0, Integer.MIN_VALUE}};
        for (int[] b : bad) {
            due.is("item(" + b[0] + ", " + b[1] + ")", x.item(b[0], b[1]), -1);
        }
    }

    private static void promise12RightsInUse() {
        RadioWeek x = new RadioWeek();
        x.addProgramme(1, 10, 0);
        x.addProgramme(2, 10, 0);
        x.addRight(0, 0, 1000, 1);
        x.addRight(0, 0, 500, 1);
        x.addRight(0, 0, 500, 1);
        x.addRight(1, 0, 10080, 5);
        x.place(0, 100, false);
        x.place(0, 200, false);
        x.place(0, 300, false);
        x.place(1, 50, false);
        due.is("a filler uses none, though there is one", x.item(0, 4), -9);
        due.is("the window that ends first, of two the smaller number", x.item(1, 4), 1);
        due.is("then the greater number", x.item(2, 4), 2);
        due.is("then the window that ends later", x.item(3, 4), 0);
        x.remove(1);
        due.is("without the first the others use the first ones", x.item(1, 4), 1);
        due.is("the last one, too", x.item(2, 4), 2);
        for (int i = 0; i < 2; i++) {
            x.runOver(2, 120);
        }
        due.is("out of its window it uses the other", x.item(2, 4), 0);
        for (int i = 0; i < 4; i++) {
            x.runOver(2, 120);
        }
        due.is("out of both it finds none", x.item(2, 4), -9);
        due.is("left(0)", x.left(0), 1);
    }

    private static void promise13OnAir() {
        RadioWeek x = fourProgrammes();
        x.place(0, 0, false);
        x.place(0, 10, false);
        x.place(0, 10070, false);
        due.is("onAir(0)", x.onAir(0), 0);
        due.is("onAir(9)", x.onAir(9), 0);
        due.is("onAir(10)", x.onAir(10), 1);
        due.is("onAir(19)", x.onAir(19), 1);
        due.is("onAir(20)", x.onAir(20), -9);
        due.is("onAir(10069)", x.onAir(10069), -9);
        due.is("onAir(10070)", x.onAir(10070), 2);
        due.is("onAir(10079)", x.onAir(10079), 2);
        int[] bad = {-1, 10080, Integer.MIN_VALUE, Integer.MAX_VALUE};
        for (int b : bad) {
            due.is("onAir(" + b + ")", x.onAir(b), -1);
        }
    }

    private static void promise14Left() {
        RadioWeek x = fourProgrammes();
        x.addRight(2, 0, 10080, 3);
        x.addRight(0, 0, 120, 1);
        due.is("left(0)", x.left(0), 50);
        x.place(0, 100, false);
        due.is("the other right is used first", x.left(0), 50);
        due.is("left(4)", x.left(4), 0);
        x.place(0, 110, false);
        due.is("then this one", x.left(0), 49);
        x.place(2, 200, false);
        due.is("a filler uses no right", x.left(3), 3);
        int[] bad = {-1, 5, Integer.MIN_VALUE, Integer.MAX_VALUE};
        for (int b : bad) {
            due.is("left(" + b + ")", x.left(b), -1);
        }
    }

    private static void promise15MayPlace() {
        RadioWeek x = fourProgrammes();
        x.addProgramme(0, 10, 0);
        x.addBlackout(600, 700, 2);
        x.place(2, 100, false);
        due.is("possible", x.mayPlace(0, 200), 0);
        due.is("possible at 0", x.mayPlace(0, 0), 0);
        due.is("CLASH", x.mayPlace(0, 99), -4);
        due.is("CLASH", x.mayPlace(0, 10071), -4);
        due.is("RIGHT", x.mayPlace(4, 200), -5);
        due.is("DARK", x.mayPlace(3, 699), -6);
        int[][] bad = {{-1, 0}, {5, 0}, {0, -1}, {0, 10080}, {Integer.MAX_VALUE, 0}, {0, Integer.MIN_VALUE}};
        for (int[] b : bad) {
            due.is("mayPlace(" + b[0] + ", " + b[1] + ")", x.mayPlace(b[0], b[1]), -1);
        }
        due.is("nothing was placed", x.items(), 1);
        for (int i = 1; i < 60; i++) {
            x.place(2, 1000 + 10 * i, false);
        }
        due.is("FULL", x.mayPlace(0, 100), -3);
    }

    private static void promise16Owed() {
        RadioWeek x = fourProgrammes();
        x.place(1, 100, false);
        x.place(3, 130, true);
        x.place(3, 132, true);
        due.is("owed(3)", x.owed(3), 0);
        x.runOver(0, 4);
        due.is("owed(3)", x.owed(3), 2);
        due.is("owed(1)", x.owed(1), 0);
        int[] bad = {-1, 4, Integer.MIN_VALUE, Integer.MAX_VALUE};
        for (int b : bad) {
            due.is("owed(" + b + ")", x.owed(b), -1);
        }
    }

    private static void promise17Minutes() {
        RadioWeek x = fourProgrammes();
        x.place(0, 100, false);
        x.place(1, 110, false);
        x.place(2, 150, false);
        x.place(3, 10078, false);
        x.place(0, 200, false);
        int[] week = {20, 30, 7, 2, 10080 - 59};
        for (int kind = 0; kind <= 4; kind++) {
            due.is("minutes(" + kind + ", 0, 10080)", x.minutes(kind, 0, 10080), week[kind]);
        }
        due.is("within an item", x.minutes(1, 115, 120), 5);
        due.is("within an item, nothing", x.minutes(4, 115, 120), 0);
        due.is("parts of two items", x.minutes(0, 105, 205), 10);
        due.is("nothing between", x.minutes(4, 105, 205), 100 - 10 - 30 - 7);
        due.is("the last minute", x.minutes(3, 10079, 10080), 1);
        due.is("one minute of silence", x.minutes(4, 99, 100), 1);
        int[][] bad = {{-1, 0, 1}, {5, 0, 1}, {0, -1, 1}, {0, 10080, 10081}, {0, 5, 5}, {0, 6, 5}, {0, 0, 10081},
            {Integer.MAX_VALUE, 0, 1}, {0, Integer.MAX_VALUE, Integer.MIN_VALUE}, {0, Integer.MIN_VALUE, 1}};
        for (int[] b : bad) {
            due.is("minutes(" + b[0] + ", " + b[1] + ", " + b[2] + ")", x.minutes(b[0], b[1], b[2]), -1);
        }
    }

    private static void promise18Silence() {
        RadioWeek x = fourProgrammes();
        x.place(0, 10, false);
        x.place(0, 30, false);
        x.place(0, 50, false);
        due.is("the first of several", x.silence(10, 60), 10081 * 10 + 20);
        due.is("before the first item", x.silence(0, 30), 10081 * 10);
        due.is("cut by the interval", x.silence(25, 45), 10081 * 5 + 25);
        due.is("cut, the second is longer", x.silence(26, 45), 10081 * 5 + 40);
        due.is("after the last item", x.silence(0, 10080), 10081 * (10080 - 60) + 60);
        due.is("without items", x.silence(1000, 1001), 10081 + 1000);
        due.is("an interval within an item", x.silence(12, 15), -9);
        due.is("an item exactly", x.silence(10, 20), -9);
        due.is("one minute after it", x.silence(10, 21), 10081 + 20);
        due.is("an item before the interval", x.silence(15, 35), 10081 * 10 + 20);
        int[][] bad = {{-1, 1}, {10080, 10081}, {5, 5}, {6, 5}, {0, 10081},
            {Integer.MAX_VALUE, Integer.MIN_VALUE}, {Integer.MIN_VALUE, 1}, {0, Integer.MAX_VALUE}};
        for (int[] b : bad) {
            due.is("silence(" + b[0] + ", " + b[1] + ")", x.silence(b[0], b[1]), -1);
        }
    }

    private static void rankingIs(RadioWeek x, int... programmes) {
        for (int i = 0; i < programmes.length; i++) {
            due.is("ranked(" + i + ")", x.ranked(i), programmes[i]);
        }
        due.is("ranked(" + programmes.length + ")", x.ranked(programmes.length), -1);
    }

    private static void promise19Ranked() {
        RadioWeek x = fourProgrammes();
        rankingIs(x, 0, 1, 2, 3);
        x.place(3, 10078, false);
        rankingIs(x, 3, 0, 1, 2);
        x.place(2, 300, false);
        rankingIs(x, 2, 3, 0, 1);
        for (int i = 0; i < 3; i++) {
            x.place(0, 500 + 10 * i, false);
        }
        x.place(1, 1000, false);
        rankingIs(x, 0, 1, 2, 3);
        x.runOver(x.onAir(1000), 1);
        rankingIs(x, 1, 0, 2, 3);
        int[] bad = {-1, Integer.MIN_VALUE, Integer.MAX_VALUE};
        for (int b : bad) {
            due.is("ranked(" + b + ")", x.ranked(b), -1);
        }
    }

    private static void promise20Broken() {
        RadioWeek x = fourProgrammes();
        x.place(0, 100, false);
        x.place(1, 110, false);
        x.place(2, 1540, false);
        x.place(3, 1547, false);
        due.is("no blackout", x.broken(), 0);
        x.addBlackout(145, 150, 0);
        due.is("none in it", x.broken(), 0);
        x.runOver(1, 5);
        due.is("until its beginning", x.broken(), 0);
        x.runOver(1, 1);
        due.is("ran over into it", x.broken(), 1);
        x.addBlackout(100, 110, 2);
        due.is("not the one of a lower rating", x.broken(), 3);
        x.addBlackout(100, 111, 0);
        due.is("each once", x.broken(), 4);
        x.undo();
        x.undo();
        due.is("after undo()", x.broken(), 1);
    }

    private static void lineIs(RadioWeek x, int item, String line) {
        for (int k = 0; k < line.length(); k++) {
            due.is("line(" + item + ", " + k + ") of " + line, x.line(item, k), line.charAt(k));
        }
        due.is("the end of " + line, x.line(item, line.length()), -9);
        due.is("long after the end of " + line, x.line(item, Integer.MAX_VALUE), -9);
        due.is("before " + line, x.line(item, -1), -1);
    }

    private static void promise21Line() {
        RadioWeek x = new RadioWeek();
        for (int p = 0; p < 12; p++) {
            x.addProgramme(p == 11 ? 1 : 2, p == 0 ? 240 : p == 11 ? 60 : 5, 0);
        }
        x.addRight(11, 0, 10080, 50);
        x.place(0, 6 * 1440 + 23 * 60 + 9 - 1000, false);
        x.place(1, 0, true);
        x.place(10, 10075, false);
        x.place(11, 1440 + 600, true);
        lineIs(x, 0, "0 00:00 +5 P1!");
        lineIs(x, 1, "1 10:00 +60 P11!");
        lineIs(x, 2, "6 06:29 +240 P0");
        lineIs(x, 3, "6 23:55 +5 P10");
        for (int i = 0; i < 50; i++) {
            x.runOver(1, 120);
        }
        lineIs(x, 1, "1 10:00 +6060 P11!");
        due.is("line(-1, 0)", x.line(-1, 0), -1);
        due.is("line(greatest, 0)", x.line(Integer.MAX_VALUE, 0), -1);
        due.is("line(0, least)", x.line(0, Integer.MIN_VALUE), -1);
        due.is("no item after the last", x.line(x.items(), 0), -1);
    }

    private static void askingIsNoAct() {
        RadioWeek x = fourProgrammes();
        x.place(0, 100, false);
        long print = x.fingerprint();
        x.items();
        x.item(0, 4);
        x.onAir(100);
        x.left(0);
        x.mayPlace(0, 200);
        x.owed(0);
        x.minutes(0, 0, 10080);
        x.silence(0, 10080);
        x.ranked(0);
        x.broken();
        x.line(0, 0);
        x.earliest(0, 0);
        due.is("fingerprint()", x.fingerprint(), print);
        due.is("undo()", x.undo(), 4);
        due.is("items()", x.items(), 0);
    }
}
