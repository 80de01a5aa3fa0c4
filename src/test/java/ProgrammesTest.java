/** Promises 1 to 4: a new object, programmes, rights and blackouts. */
public final class ProgrammesTest {
    private static final Due due = new Due("ProgrammesTest");

    public static void main(String[] args) {
        promise1Empty();
        promise2Numbers();
        promise2Ranges();
        promise2Full();
        promise3Numbers();
        promise3Ranges();
        promise3Full();
        promise4Numbers();
        promise4Ranges();
        promise4Full();
        promise4ItemsStay();
        due.end();
    }

    private static void promise1Empty() {
        RadioWeek x = new RadioWeek();
        due.is("items()", x.items(), 0);
        due.is("owed(0)", x.owed(0), -1);
        due.is("left(0)", x.left(0), -1);
        due.is("ranked(0)", x.ranked(0), -1);
        due.is("broken()", x.broken(), 0);
        due.is("undo()", x.undo(), -9);
        due.is("onAir(10079)", x.onAir(10079), -9);
        due.is("silence(0, 10080)", x.silence(0, 10080), 10081 * 10080);
        // No number but zeros: 73 * 31 ^ 4.
        due.is("fingerprint()", x.fingerprint(), 73L * 31 * 31 * 31 * 31);
        RadioWeek y = new RadioWeek();
        y.addProgramme(0, 1, 0);
        due.is("fingerprint() of another object", x.fingerprint(), 73L * 31 * 31 * 31 * 31);
    }

    private static void promise2Numbers() {
        RadioWeek x = new RadioWeek();
        due.is("the first programme", x.addProgramme(0, 1, 0), 0);
        due.is("the second programme", x.addProgramme(3, 240, 3), 1);
        due.is("owed(1)", x.owed(1), 0);
        due.is("owed(2)", x.owed(2), -1);
        due.is("two acts: undo()", x.undo(), 1);
        due.is("ranked(1) after undo()", x.ranked(1), -1);
        due.is("the number is free again", x.addProgramme(2, 5, 0), 1);
    }

    private static void promise2Ranges() {
        RadioWeek x = new RadioWeek();
        int[][] bad = {{-1, 1, 0}, {4, 1, 0}, {0, 0, 0}, {0, 241, 0}, {0, 1, -1}, {0, 1, 4},
            {Integer.MIN_VALUE, 1, 0}, {Integer.MAX_VALUE, 1, 0}, {0, Integer.MIN_VALUE, 0},
            {0, Integer.MAX_VALUE, 0}, {0, 1, Integer.MIN_VALUE}, {0, 1, Integer.MAX_VALUE}};
        for (int[] b : bad) {
            due.is("addProgramme(" + b[0] + ", " + b[1] + ", " + b[2] + ")", x.addProgramme(b[0], b[1], b[2]), -1);
        }
        due.is("nothing was kept: undo()", x.undo(), -9);
        for (int kind = 0; kind <= 3; kind++) {
            due.is("kind " + kind, x.addProgramme(kind, 1, kind), kind);
        }
    }

    private static void promise2Full() {
        RadioWeek x = new RadioWeek();
        for (int p = 0; p < 16; p++) {
            due.is("programme " + p, x.addProgramme(2, 1, 0), p);
        }
        due.is("a seventeenth programme", x.addProgramme(2, 1, 0), -3);
        due.is("a seventeenth programme, wrong", x.addProgramme(2, 0, 0), -1);
        due.is("ranked(15)", x.ranked(15), 15);
        due.is("ranked(16)", x.ranked(16), -1);
    }

    private static void promise3Numbers() {
        RadioWeek x = new RadioWeek();
        x.addProgramme(0, 10, 0);
        x.addProgramme(2, 10, 0);
        due.is("the first right", x.addRight(0, 0, 10080, 50), 0);
        due.is("the second right", x.addRight(0, 10079, 10080, 1), 1);
        due.is("a right of a filler", x.addRight(1, 5, 6, 7), 2);
        due.is("left(0)", x.left(0), 50);
        due.is("left(1)", x.left(1), 1);
        due.is("left(2)", x.left(2), 7);
        due.is("left(3)", x.left(3), -1);
        due.is("undo()", x.undo(), 4);
        due.is("left(2) after undo()", x.left(2), -1);
    }

    private static void promise3Ranges() {
        RadioWeek x = new RadioWeek();
        due.is("a right of no programme", x.addRight(0, 0, 10, 1), -1);
        x.addProgramme(0, 10, 0);
        int[][] bad = {{-1, 0, 10, 1}, {1, 0, 10, 1}, {0, -1, 10, 1}, {0, 10080, 10081, 1}, {0, 5, 5, 1},
            {0, 5, 4, 1}, {0, 0, 10081, 1}, {0, 0, 10, 0}, {0, 0, 10, 51}, {0, 0, 10, -1},
            {Integer.MAX_VALUE, 0, 10, 1}, {0, Integer.MIN_VALUE, 10, 1},
            {0, Integer.MAX_VALUE, Integer.MIN_VALUE, 1}, {0, 0, Integer.MAX_VALUE, 1},
            {0, 0, 10, Integer.MAX_VALUE}};
        for (int[] b : bad) {
            due.is("addRight(" + b[0] + ", " + b[1] + ", " + b[2] + ", " + b[3] + ")",
                    x.addRight(b[0], b[1], b[2], b[3]), -1);
        }
        due.is("nothing was kept: undo()", x.undo(), 0);
        due.is("left(0)", x.left(0), -1);
    }

    private static void promise3Full() {
        RadioWeek x = new RadioWeek();
        x.addProgramme(0, 10, 0);
        for (int r = 0; r < 30; r++) {
            due.is("right " + r, x.addRight(0, 0, 1, 1), r);
        }
        due.is("a right too many", x.addRight(0, 0, 1, 1), -3);
        due.is("a right too many, wrong", x.addRight(0, 0, 0, 1), -1);
        due.is("left(29)", x.left(29), 1);
        due.is("left(30)", x.left(30), -1);
    }

    private static void promise4Numbers() {
        RadioWeek x = new RadioWeek();
        due.is("the first blackout", x.addBlackout(0, 1440, 3), 0);
        due.is("the second blackout", x.addBlackout(1439, 1440, 0), 1);
        x.addProgramme(2, 1, 2);
        due.is("mayPlace(0, 0)", x.mayPlace(0, 0), 0);
        due.is("mayPlace(0, 1439)", x.mayPlace(0, 1439), -6);
        x.undo();
        x.undo();
        x.addProgramme(2, 1, 2);
        due.is("mayPlace(0, 1439) after undo()", x.mayPlace(0, 1439), 0);
        due.is("the number is free again", x.addBlackout(0, 1, 0), 1);
    }

    private static void promise4Ranges() {
        RadioWeek x = new RadioWeek();
        int[][] bad = {{-1, 10, 0}, {1440, 1441, 0}, {1440, 1440, 0}, {5, 5, 0}, {5, 4, 0}, {0, 1441, 0},
            {0, 10, -1}, {0, 10, 4}, {Integer.MAX_VALUE, Integer.MIN_VALUE, 0}, {0, Integer.MAX_VALUE, 0},
            {Integer.MIN_VALUE, 10, 0}, {0, 10, Integer.MAX_VALUE}};
        for (int[] b : bad) {
            due.is("addBlackout(" + b[0] + ", " + b[1] + ", " + b[2] + ")", x.addBlackout(b[0], b[1], b[2]), -1);
        }
        due.is("nothing was kept: undo()", x.undo(), -9);
    }

    private static void promise4Full() {
        RadioWeek x = new RadioWeek();
        for (int b = 0; b < 10; b++) {
            due.is("blackout " + b, x.addBlackout(0, 1, 0), b);
        }
        due.is("an eleventh blackout", x.addBlackout(0, 1, 0), -3);
        due.is("an eleventh blackout, wrong", x.addBlackout(0, 0, 0), -1);
    }

    private static void promise4ItemsStay() {
        RadioWeek x = new RadioWeek();
        x.addProgramme(2, 10, 1);
        x.place(0, 100, false);
        due.is("a blackout over an item", x.addBlackout(100, 110, 1), 0);
        due.is("items()", x.items(), 1);
        due.is("broken()", x.broken(), 1);
    }
}
