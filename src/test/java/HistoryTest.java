/** Promises 22 and 23: undo and fingerprint. */
public final class HistoryTest {
    private static final Due due = new Due("HistoryTest");

    public static void main(String[] args) {
        promise22FiveStates();
        promise22EachAct();
        promise22ErrorsKeepNothing();
        promise22NoRedo();
        promise23Numbers();
        promise23Wholly();
        due.end();
    }

    private static void promise22FiveStates() {
        RadioWeek x = new RadioWeek();
        due.is("undo() of nothing", x.undo(), -9);
        for (int p = 0; p < 8; p++) {
            x.addProgramme(2, 1 + p, 0);
        }
        for (int still = 4; still >= 0; still--) {
            due.is("undo()", x.undo(), still);
        }
        due.is("undo() of a sixth act", x.undo(), -9);
        due.is("three are left", x.owed(2), 0);
        due.is("not four", x.owed(3), -1);
        for (int round = 0; round < 7; round++) {
            x.addProgramme(2, 1, 0);
            x.addBlackout(0, 1, 0);
            due.is("one of two", x.undo(), 1);
            due.is("two of two", x.undo(), 0);
            due.is("no more", x.undo(), -9);
        }
        due.is("still three", x.owed(3), -1);
    }

    /** After each act and its undoing the fingerprint is the one before it. */
    private static void promise22EachAct() {
        RadioWeek x = new RadioWeek();
        for (int act = 0; act < 9; act++) {
            x.undo();
            x = begun();
            long before = x.fingerprint();
            int brokenBefore = x.broken();
            due.holds("act " + act + " is possible", doAct(x, act) >= 0);
            due.holds("act " + act + " changes something", x.fingerprint() != before);
            due.is("undo() of act " + act, x.undo(), 4);
            due.is("fingerprint() after undo() of act " + act, x.fingerprint(), before);
            due.is("broken() after undo() of act " + act, x.broken(), brokenBefore);
            due.holds("act " + act + " is possible again", doAct(x, act) >= 0);
        }
    }

    private static RadioWeek begun() {
        RadioWeek x = new RadioWeek();
        x.addProgramme(1, 10, 0);
        x.addProgramme(3, 5, 0);
        x.addProgramme(2, 5, 0);
        x.addRight(0, 0, 10080, 9);
        x.addRight(1, 0, 10080, 9);
        x.place(0, 100, false);
        x.place(1, 110, true);
        x.runOver(0, 5);
        x.place(1, 115, true);
        return x;
    }

    private static int doAct(RadioWeek x, int act) {
        switch (act) {
            case 0: return x.addProgramme(0, 1, 1);
            case 1: return x.addRight(0, 0, 5, 1);
            case 2: return x.addBlackout(0, 1440, 0);
            case 3: return x.place(2, 500, true);
            case 4: return x.remove(1);
            case 5: return x.fill(200, 205);
            case 6: return x.runOver(0, 120);
            case 7: return x.makeGood(1, 0);
            default: return x.runOver(0, 1);
        }
    }

    private static void promise22ErrorsKeepNothing() {
        RadioWeek x = begun();
        long before = x.fingerprint();
        int[] answers = {x.addProgramme(9, 1, 1), x.addRight(0, 5, 5, 1), x.addBlackout(0, 1441, 0),
            x.place(2, 100, false), x.remove(7), x.fill(200, 201), x.fill(100, 105), x.runOver(1, 5),
            x.runOver(0, 121), x.makeGood(0, 0), x.earliest(9, 9)};
        for (int answer : answers) {
            due.holds("an error is below 0", answer < 0);
        }
        due.is("fingerprint()", x.fingerprint(), before);
        due.is("undo()", x.undo(), 4);
        due.is("the latest act was the placing", x.items(), 1);
    }

    private static void promise22NoRedo() {
        RadioWeek x = new RadioWeek();
        x.addProgramme(2, 5, 0);
        x.place(0, 100, false);
        x.place(0, 200, false);
        due.is("undo()", x.undo(), 2);
        x.place(0, 300, true);
        due.is("the new item", x.item(1, 1), 300);
        due.is("undo()", x.undo(), 2);
        due.is("undo()", x.undo(), 1);
        due.is("items()", x.items(), 0);
    }

    private static long print(long... numbers) {
        long print = 73;
        for (long number : numbers) {
            print = 31 * print + number;
        }
        return print;
    }

    private static void promise23Numbers() {
        RadioWeek x = new RadioWeek();
        due.is("empty", x.fingerprint(), print(0, 0, 0, 0));
        x.addProgramme(1, 30, 0);
        due.is("a programme", x.fingerprint(), print(1, 0, 0, 0, 0));
        x.addProgramme(3, 5, 0);
        x.addBlackout(0, 5, 3);
        x.addRight(0, 0, 10080, 7);
        x.addRight(1, 0, 10080, 9);
        due.is("no items", x.fingerprint(), print(2, 2, 1, 0, 0, 0, 7, 9));
        x.place(0, 100, false);
        x.place(1, 130, true);
        due.is("two items", x.fingerprint(),
                print(2, 2, 1, 2, 0, 100, 30, 0, 0, 1, 130, 5, 1, 1, 0, 0, 6, 8));
        x.runOver(0, 5);
        due.is("one dropped", x.fingerprint(), print(2, 2, 1, 1, 0, 100, 35, 0, 0, 0, 1, 6, 9));
        x.addProgramme(2, 4, 0);
        x.place(2, 0, false);
        due.is("a filler", x.fingerprint(),
                print(3, 2, 1, 2, 2, 0, 4, 0, -9, 0, 100, 35, 0, 0, 0, 1, 0, 6, 9));
    }

    /** Many items: the long overflows. */
    private static void promise23Wholly() {
        RadioWeek x = new RadioWeek();
        x.addProgramme(2, 1, 0);
        long[] numbers = new long[4 + 60 * 5 + 1];
        numbers[0] = 1;
        numbers[3] = 60;
        for (int i = 0; i < 60; i++) {
            x.place(0, 100 + i, i % 2 == 0);
            numbers[4 + 5 * i + 1] = 100 + i;
            numbers[4 + 5 * i + 2] = 1;
            numbers[4 + 5 * i + 3] = 1 - i % 2;
            numbers[4 + 5 * i + 4] = -9;
        }
        due.is("sixty items", x.fingerprint(), print(numbers));
    }
}
