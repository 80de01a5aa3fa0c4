/**
 * Long runs of calls, the same ones each time, on RadioWeek and on PlainWeek, whose answers must be the same.
 * An argument gives another number of runs.
 */
public final class RandomTest {
    private static final int RUNS = 2500;
    /** The document promises nothing of an object after so many calls. */
    private static final int CALLS = 512;
    /** The most calls that oneCall() makes: it asks for everything and then for the fingerprint. */
    private static final int CALLS_AT_ONCE = 41;

    private final Due due;
    private final int run;
    private int calls;
    private long seed;
    private final RadioWeek week = new RadioWeek();
    private final PlainWeek plain = new PlainWeek();
    private final int base;
    private final int span;
    private final int longest;
    private final int mostPlays;
    private final int sharpest;
    private final boolean rightsForAll;
    // Runs in which nothing runs over would show nothing.
    private static int overruns = 0;
    private static int overrunsWithDrops = 0;

    private RandomTest(Due due, int run) {
        this.due = due;
        this.run = run;
        seed = 1_000_003L * run + 17;
        int[] spans = {40, 120, 400, 1500, 10080};
        span = spans[upTo(4)];
        int place = upTo(3);
        base = place == 0 ? 0 : place == 1 ? 10080 - span : upTo(10080 - span);
        int[] lengths = {3, 8, 20, 60, 240};
        longest = lengths[upTo(4)];
        mostPlays = upTo(2) == 0 ? 2 : upTo(1) == 0 ? 8 : 50;
        sharpest = upTo(3);
        rightsForAll = upTo(1) == 0;
    }

    /** From 0 to a greatest number. */
    private int upTo(int greatest) {
        seed = seed * 6364136223846793005L + 1442695040888963407L;
        return (int) ((seed >>> 33) % (greatest + 1));
    }

    private int from(int least, int greatest) {
        return least + upTo(greatest - least);
    }

    private int time() {
        if (upTo(60) == 0) {
            int[] odd = {-1, 0, 10079, 10080, 10081, Integer.MIN_VALUE, Integer.MAX_VALUE};
            return odd[upTo(odd.length - 1)];
        }
        return Math.min(10080, base + upTo(span));
    }

    private int programme() {
        return upTo(50) == 0 ? from(-1, 16) : upTo(15);
    }

    private int anItem() {
        int items = plain.items();
        return items == 0 || upTo(50) == 0 ? from(-1, 60) : upTo(items - 1);
    }

    /** Each call on the week is compared once. */
    private void is(String call, long got, long want) {
        calls++;
        due.is("run " + run + ": " + call, got, want);
    }

    private void addProgramme() {
        int kind = upTo(80) == 0 ? from(-1, 4) : from(0, 3);
        int length = upTo(80) == 0 ? (upTo(1) == 0 ? 0 : 241) : from(1, longest);
        int rating = upTo(80) == 0 ? from(-1, 4) : from(0, 3);
        is("addProgramme(" + kind + ", " + length + ", " + rating + ")", week.addProgramme(kind, length, rating),
                plain.addProgramme(kind, length, rating));
    }

    private void addRight(int programme) {
        int from = upTo(2) == 0 ? 0 : time();
        int to = upTo(2) == 0 ? 10080 : upTo(20) == 0 ? time() : from + upTo(span);
        int plays = upTo(80) == 0 ? (upTo(1) == 0 ? 0 : 51) : from(1, mostPlays);
        is("addRight(" + programme + ", " + from + ", " + to + ", " + plays + ")",
                week.addRight(programme, from, to, plays), plain.addRight(programme, from, to, plays));
    }

    private void addBlackout() {
        int from = upTo(80) == 0 ? -1 : upTo(1) == 0 ? upTo(1440) : (base + upTo(span)) % 1440;
        int to = upTo(80) == 0 ? 1441 : from + upTo(Math.max(1, Math.min(1440 - from, span / 4)));
        int rating = upTo(80) == 0 ? from(-1, 4) : from(sharpest, 3);
        is("addBlackout(" + from + ", " + to + ", " + rating + ")", week.addBlackout(from, to, rating),
                plain.addBlackout(from, to, rating));
    }

    private void place() {
        int p = programme();
        int start = time();
        boolean fixed = upTo(3) == 0;
        is("mayPlace(" + p + ", " + start + ")", week.mayPlace(p, start), plain.mayPlace(p, start));
        is("place(" + p + ", " + start + ", " + fixed + ")", week.place(p, start, fixed), plain.place(p, start, fixed));
    }

    /** Directly after an item, so that runs over have much to push. */
    private void placeAfter() {
        int item = anItem();
        int start = plain.item(item, 1) + plain.item(item, 2);
        int p = programme();
        boolean fixed = upTo(3) == 0;
        is("place(" + p + ", " + start + ", " + fixed + ")", week.place(p, start, fixed), plain.place(p, start, fixed));
    }

    private void fill() {
        int item = anItem();
        int from = upTo(1) == 0 ? plain.item(item, 1) + Math.max(plain.item(item, 2), 0) : time();
        int to = upTo(40) == 0 ? time() : from + from(1, upTo(3) == 0 ? 240 : 40);
        if (upTo(2) == 0 && plain.items() > item + 1 && item >= 0) {
            to = plain.item(item + 1, 1);
        }
        is("fill(" + from + ", " + to + ")", week.fill(from, to), plain.fill(from, to));
    }

    private void runOver() {
        int item = anItem();
        for (int tries = upTo(9) == 0 ? 20 : 0; tries < 20 && !isLive(item); tries++) {
            item = anItem();
        }
        int minutes = upTo(30) == 0 ? from(-1, 121) : from(1, Math.min(120, 2 * longest));
        int got = week.runOver(item, minutes);
        int want = plain.runOver(item, minutes);
        is("runOver(" + item + ", " + minutes + ")", got, want);
        if (want >= 0) {
            overruns++;
            if (want > 0) {
                overrunsWithDrops++;
            }
        }
    }

    private boolean isLive(int item) {
        int start = plain.item(item, 1);
        return start >= 0 && plain.minutes(1, start, start + 1) == 1;
    }

    private void makeGood() {
        int p = programme();
        for (int tries = 0; tries < 30 && plain.owed(p) <= 0; tries++) {
            p = programme();
        }
        int after = time();
        is("makeGood(" + p + ", " + after + ")", week.makeGood(p, after), plain.makeGood(p, after));
    }

    private void earliest() {
        int p = programme();
        int after = time();
        is("earliest(" + p + ", " + after + ")", week.earliest(p, after), plain.earliest(p, after));
    }

    private void ask() {
        int item = anItem();
        int number = from(-1, 30);
        int from = time();
        int to = upTo(10) == 0 ? time() : from + upTo(Math.min(span, 500));
        is("items()", week.items(), plain.items());
        for (int what = -1; what <= 5; what++) {
            is("item(" + item + ", " + what + ")", week.item(item, what), plain.item(item, what));
        }
        is("onAir(" + from + ")", week.onAir(from), plain.onAir(from));
        is("left(" + number + ")", week.left(number), plain.left(number));
        is("owed(" + number + ")", week.owed(number), plain.owed(number));
        is("ranked(" + number + ")", week.ranked(number), plain.ranked(number));
        is("broken()", week.broken(), plain.broken());
        int kind = from(-1, 5);
        is("minutes(" + kind + ", " + from + ", " + to + ")", week.minutes(kind, from, to), plain.minutes(kind, from, to));
        is("silence(" + from + ", " + to + ")", week.silence(from, to), plain.silence(from, to));
        for (int k = -1; k <= 20; k++) {
            is("line(" + item + ", " + k + ")", week.line(item, k), plain.line(item, k));
        }
    }

    private void undo() {
        for (int times = upTo(3); times >= 0; times--) {
            is("undo()", week.undo(), plain.undo());
        }
    }

    private void begin() {
        int programmes = from(2, 16);
        for (int p = 0; p < programmes; p++) {
            addProgramme();
            if (rightsForAll || upTo(2) == 0) {
                addRight(p);
            }
            if (upTo(2) == 0) {
                addRight(p);
            }
        }
        for (int b = upTo(2); b > 0; b--) {
            addBlackout();
        }
    }

    private void oneCall() {
        int dice = upTo(199);
        if (dice < 60) {
            place();
        } else if (dice < 90) {
            placeAfter();
        } else if (dice < 120) {
            fill();
        } else if (dice < 150) {
            runOver();
        } else if (dice < 158) {
            makeGood();
        } else if (dice < 162) {
            for (int times = run % 10 == 0 ? 10 : 1; times > 0; times--) {
                earliest();
            }
        } else if (dice < 174) {
            int item = anItem();
            is("remove(" + item + ")", week.remove(item), plain.remove(item));
        } else if (dice < 180) {
            undo();
        } else if (dice < 187) {
            ask();
        } else if (dice < 194) {
            addRight(programme());
        } else if (dice < 197) {
            addProgramme();
        } else {
            addBlackout();
        }
        is("fingerprint()", week.fingerprint(), plain.fingerprint());
    }

    private void go() {
        begin();
        while (calls <= CALLS - CALLS_AT_ONCE && due.wrong() == 0) {
            oneCall();
        }
        due.holds("run " + run + " has no more calls than are promised", calls <= CALLS);
    }

    public static void main(String[] args) {
        Due due = new Due("RandomTest");
        int runs = args.length > 0 ? Integer.parseInt(args[0]) : RUNS;
        for (int run = 1; run <= runs && due.wrong() == 0; run++) {
            new RandomTest(due, run).go();
        }
        due.holds("many items ran over (" + overruns + ", " + overrunsWithDrops + " with drops)",
                overruns > 5000 && overrunsWithDrops > 1000);
        due.end();
    }
}
