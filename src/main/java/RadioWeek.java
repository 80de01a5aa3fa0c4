/**
 * A week's schedule of a radio station: programmes are placed within the windows of their rights and
 * outside of blackouts, gaps are filled, live programmes run over, and dropped spots are made good.
 *
 * <p>All rows are made by the constructor and used again, so that no call makes an object.
 */
public final class RadioWeek {
    public static final int BAD = -1;
    public static final int STATE = -2;
    public static final int FULL = -3;
    public static final int CLASH = -4;
    public static final int RIGHT = -5;
    public static final int DARK = -6;
    public static final int NONE = -9;

    private static final int DAY = 1440;
    private static final int WEEK = 7 * DAY;

    private static final int LIVE = 1;
    private static final int FILLER = 2;
    private static final int SPOT = 3;
    private static final int KINDS = 4;
    private static final int MAX_RATING = 3;

    private static final int MAX_PROGRAMMES = 16;
    private static final int MAX_RIGHTS = 30;
    private static final int MAX_BLACKOUTS = 10;
    private static final int MAX_ITEMS = 60;
    private static final int MAX_STATES = 5;

    private static final int MAX_LENGTH = 240;
    private static final int MAX_PLAYS = 50;
    private static final int MAX_FILL = 240;
    private static final int MAX_OVERRUN = 120;

    private final Week now;
    private final History history;
    private final Uses uses;
    private final Filling filling;
    private final StringBuilder text;

    public RadioWeek() {
        now = new Week();
        history = new History();
        uses = new Uses();
        filling = new Filling();
        text = new StringBuilder();
    }

    // ---- programmes, rights, blackouts

    public int addProgramme(int kind, int length, int rating) {
        if (!within(kind, 0, KINDS - 1) || !within(length, 1, MAX_LENGTH) || !within(rating, 0, MAX_RATING)) {
            return BAD;
        }
        if (now.programmes.count >= MAX_PROGRAMMES) {
            return FULL;
        }
        history.keep(now);
        return now.programmes.append(kind, length, rating);
    }

    public int addRight(int programme, int from, int to, int plays) {
        if (!isProgramme(programme) || !isInterval(from, to, WEEK) || !within(plays, 1, MAX_PLAYS)) {
            return BAD;
        }
        if (now.rights.count >= MAX_RIGHTS) {
            return FULL;
        }
        history.keep(now);
        return now.rights.append(programme, from, to, plays);
    }

    public int addBlackout(int from, int to, int rating) {
        if (!isInterval(from, to, DAY) || !within(rating, 0, MAX_RATING)) {
            return BAD;
        }
        if (now.blackouts.count >= MAX_BLACKOUTS) {
            return FULL;
        }
        history.keep(now);
        return now.blackouts.append(from, to, rating);
    }

    // ---- placing

    public int place(int programme, int start, boolean fixed) {
        int answer = mayPlace(programme, start);
        if (answer != 0) {
            return answer;
        }
        history.keep(now);
        return putOnAir(programme, start, fixed);
    }

    public int remove(int item) {
        if (!isItem(item)) {
            return BAD;
        }
        history.keep(now);
        now.items.delete(item);
        return now.items.count;
    }

    public int earliest(int programme, int after) {
        if (!isProgramme(programme) || !isTime(after)) {
            return BAD;
        }
        return earliestStart(programme, after);
    }

    public int fill(int from, int to) {
        if (!isInterval(from, to, WEEK) || to - from > MAX_FILL) {
            return BAD;
        }
        if (now.items.firstIn(from, to) != NONE) {
            return CLASH;
        }
        int found = filling.find(now, from, to);
        if (found == NONE) {
            return NONE;
        }
        if (now.items.count + found > MAX_ITEMS) {
            return FULL;
        }
        history.keep(now);
        int start = from;
        for (int i = 0; i < found; i++) {
            int programme = filling.chosen[i];
            putOnAir(programme, start, false);
            start += now.programmes.length[programme];
        }
        return found;
    }

    public int runOver(int item, int minutes) {
        if (!isItem(item) || !within(minutes, 1, MAX_OVERRUN)) {
            return BAD;
        }
        if (kindOf(item) != LIVE) {
            return STATE;
        }
        if (now.items.end(item) + minutes > WEEK) {
            return CLASH;
        }
        history.keep(now);
        now.items.length[item] += minutes;
        return makeRoomAfter(item);
    }

    public int makeGood(int programme, int after) {
        if (!isProgramme(programme) || !isTime(after)) {
            return BAD;
        }
        if (now.programmes.playsOwed[programme] <= 0) {
            return STATE;
        }
        int start = earliestStart(programme, after);
        if (start == NONE) {
            return NONE;
        }
        history.keep(now);
        putOnAir(programme, start, false);
        now.programmes.playsOwed[programme]--;
        return start;
    }

    // ---- asking

    public int items() {
        return now.items.count;
    }

    public int item(int item, int what) {
        if (!isItem(item)) {
            return BAD;
        }
        switch (what) {
            case 0:
                return now.items.programme[item];
            case 1:
                return now.items.start[item];
            case 2:
                return now.items.length[item];
            case 3:
                return now.items.fixed[item];
            case 4:
                shareRights();
                return uses.right[item];
            default:
                return BAD;
        }
    }

    public int onAir(int time) {
        if (!isTime(time)) {
            return BAD;
        }
        return now.items.firstIn(time, time + 1);
    }

    public int left(int right) {
        if (!within(right, 0, now.rights.count - 1)) {
            return BAD;
        }
        shareRights();
        return uses.playsLeft[right];
    }

    public int mayPlace(int programme, int start) {
        if (!isProgramme(programme) || !isTime(start)) {
            return BAD;
        }
        return obstacle(programme, start);
    }

    public int owed(int programme) {
        if (!isProgramme(programme)) {
            return BAD;
        }
        return now.programmes.playsOwed[programme];
    }

    public int minutes(int kind, int from, int to) {
        if (!within(kind, 0, KINDS) || !isInterval(from, to, WEEK)) {
            return BAD;
        }
        int ofKind = 0;
        int ofAll = 0;
        for (int i = 0; i < now.items.count; i++) {
            int shared = now.items.minutesIn(i, from, to);
            ofAll += shared;
            if (kindOf(i) == kind) {
                ofKind += shared;
            }
        }
        return kind == KINDS ? to - from - ofAll : ofKind;
    }

    public int silence(int from, int to) {
        if (!isInterval(from, to, WEEK)) {
            return BAD;
        }
        int longest = 0;
        int beginning = from;
        int silentSince = from;
        for (int i = 0; i <= now.items.count; i++) {
            int silentUntil = i < now.items.count ? Math.min(now.items.start[i], to) : to;
            if (silentUntil - silentSince > longest) {
                longest = silentUntil - silentSince;
                beginning = silentSince;
            }
            if (i < now.items.count) {
                silentSince = Math.max(silentSince, now.items.end(i));
            }
        }
        return longest == 0 ? NONE : (WEEK + 1) * longest + beginning;
    }

    public int ranked(int i) {
        if (!within(i, 0, now.programmes.count - 1)) {
            return BAD;
        }
        for (int p = 0; p < now.programmes.count; p++) {
            if (programmesAhead(p) == i) {
                return p;
            }
        }
        return BAD;
    }

    public int broken() {
        int number = 0;
        for (int i = 0; i < now.items.count; i++) {
            int rating = now.programmes.rating[now.items.programme[i]];
            if (now.blackouts.darkUntil(rating, now.items.start[i], now.items.end(i)) != NONE) {
                number++;
            }
        }
        return number;
    }

    public int line(int item, int k) {
        if (!isItem(item) || k < 0) {
            return BAD;
        }
        writeLine(item);
        return k < text.length() ? (int) text.charAt(k) : NONE;
    }

    // ---- history

    public int undo() {
        if (history.count == 0) {
            return NONE;
        }
        history.takeBack(now);
        return history.count;
    }

    public long fingerprint() {
        shareRights();
        long print = 73;
        print = 31 * print + now.programmes.count;
        print = 31 * print + now.rights.count;
        print = 31 * print + now.blackouts.count;
        print = 31 * print + now.items.count;
        for (int i = 0; i < now.items.count; i++) {
            print = 31 * print + now.items.programme[i];
            print = 31 * print + now.items.start[i];
            print = 31 * print + now.items.length[i];
            print = 31 * print + now.items.fixed[i];
            print = 31 * print + uses.right[i];
        }
        for (int p = 0; p < now.programmes.count; p++) {
            print = 31 * print + now.programmes.playsOwed[p];
        }
        for (int r = 0; r < now.rights.count; r++) {
            print = 31 * print + uses.playsLeft[r];
        }
        return print;
    }

    // ---- what arguments may be

    private static boolean within(int number, int least, int greatest) {
        return number >= least && number <= greatest;
    }

    private static boolean isTime(int time) {
        return within(time, 0, WEEK - 1);
    }

    private static boolean isInterval(int from, int to, int greatest) {
        return from >= 0 && from < to && to <= greatest;
    }

    private boolean isProgramme(int programme) {
        return within(programme, 0, now.programmes.count - 1);
    }

    private boolean isItem(int item) {
        return within(item, 0, now.items.count - 1);
    }

    // ---- placing a programme

    /** The first error of placing, or 0. */
    private int obstacle(int programme, int start) {
        if (now.items.count >= MAX_ITEMS) {
            return FULL;
        }
        int end = start + now.programmes.length[programme];
        if (end > WEEK || now.items.firstIn(start, end) != NONE) {
            return CLASH;
        }
        if (!rightsAllow(programme, start, end)) {
            return RIGHT;
        }
        if (now.blackouts.darkUntil(now.programmes.rating[programme], start, end) != NONE) {
            return DARK;
        }
        return 0;
    }

    private boolean rightsAllow(int programme, int start, int end) {
        if (now.programmes.kind[programme] == FILLER) {
            return true;
        }
        gatherItemsOf(programme);
        uses.add(programme, start, end);
        return uses.share(now.rights);
    }

    private void gatherItemsOf(int programme) {
        uses.clear();
        for (int i = 0; i < now.items.count; i++) {
            if (now.items.programme[i] == programme) {
                uses.add(programme, now.items.start[i], now.items.end(i));
            }
        }
    }

    private int putOnAir(int programme, int start, boolean fixed) {
        int at = now.items.indexFor(start);
        now.items.insert(at, programme, start, now.programmes.length[programme], fixed);
        return at;
    }

    private int earliestStart(int programme, int after) {
        int last = Math.min(after + DAY - 1, WEEK - 1);
        int start = after;
        for (int tries = 0; tries < DAY && start <= last; tries++) {
            int error = obstacle(programme, start);
            if (error == 0) {
                return start;
            }
            start = nextToTry(programme, start, error);
        }
        return NONE;
    }

    /** A later start; all between are impossible, too, so that none of them need be tried. */
    private int nextToTry(int programme, int start, int error) {
        int end = start + now.programmes.length[programme];
        if (error == RIGHT) {
            return nextWindow(programme, start);
        }
        if (error == DARK) {
            return now.blackouts.darkUntil(now.programmes.rating[programme], start, end);
        }
        int other = now.items.firstIn(start, end);
        return error == FULL || other == NONE ? WEEK : now.items.end(other);
    }

    /**
     * The next start at which one more right may cover the programme. Items that do not overlap all find
     * a right, the one that ends first at a time, if there is any way to give each of them one; so only
     * a further right can help, and not one that ceases to cover or an item that is passed.
     */
    private int nextWindow(int programme, int start) {
        int next = WEEK;
        for (int r = 0; r < now.rights.count; r++) {
            int from = now.rights.from[r];
            if (now.rights.programme[r] == programme && from > start && from < next) {
                next = from;
            }
        }
        return next;
    }

    // ---- running over

    /** Drops, cuts or pushes what the item runs into; answers how many items were dropped. */
    private int makeRoomAfter(int item) {
        int before = now.items.count;
        int end = now.items.end(item);
        int next = item + 1;
        for (int i = item + 1; i < before; i++) {
            if (next >= now.items.count || now.items.start[next] >= end) {
                break;
            }
            if (giveWay(next, end)) {
                end = now.items.end(next);
                next++;
            } else {
                drop(next);
            }
        }
        return before - now.items.count;
    }

    /** Lets an item start at a later time; false if it has to be dropped. */
    private boolean giveWay(int item, int time) {
        if (kindOf(item) == FILLER) {
            return false;
        }
        return now.items.fixed[item] == 1 ? cut(item, time) : push(item, time);
    }

    private boolean cut(int item, int time) {
        int end = now.items.end(item);
        if (end <= time) {
            return false;
        }
        now.items.start[item] = time;
        now.items.length[item] = end - time;
        return true;
    }

    private boolean push(int item, int time) {
        int programme = now.items.programme[item];
        int end = time + now.items.length[item];
        if (end > WEEK || now.blackouts.darkUntil(now.programmes.rating[programme], time, end) != NONE) {
            return false;
        }
        // The rights are asked with the item where it would be; if they refuse it, it is dropped anyway.
        now.items.start[item] = time;
        gatherItemsOf(programme);
        return uses.share(now.rights);
    }

    private void drop(int item) {
        if (kindOf(item) == SPOT) {
            now.programmes.playsOwed[now.items.programme[item]]++;
        }
        now.items.delete(item);
    }

    // ---- asking

    private int kindOf(int item) {
        return now.programmes.kind[now.items.programme[item]];
    }

    /** Shares all rights among all items; an item's entry has the item's number. */
    private void shareRights() {
        uses.clear();
        for (int i = 0; i < now.items.count; i++) {
            // No right is for the programme NONE, so that a filler finds none.
            int programme = kindOf(i) == FILLER ? NONE : now.items.programme[i];
            uses.add(programme, now.items.start[i], now.items.end(i));
        }
        uses.share(now.rights);
    }

    private int programmesAhead(int programme) {
        int own = now.items.minutesOf(programme);
        int ahead = 0;
        for (int p = 0; p < now.programmes.count; p++) {
            int others = now.items.minutesOf(p);
            if (others > own || others == own && p < programme) {
                ahead++;
            }
        }
        return ahead;
    }

    private void writeLine(int item) {
        int minuteOfDay = now.items.start[item] % DAY;
        text.setLength(0);
        text.append(now.items.start[item] / DAY).append(' ');
        writeTwoDigits(minuteOfDay / 60);
        text.append(':');
        writeTwoDigits(minuteOfDay % 60);
        text.append(" +").append(now.items.length[item]);
        text.append(" P").append(now.items.programme[item]);
        if (now.items.fixed[item] == 1) {
            text.append('!');
        }
    }

    private void writeTwoDigits(int number) {
        text.append(number / 10).append(number % 10);
    }

    // ---- what a week consists of

    private static final class Programmes {
        int count;
        final int[] kind = new int[MAX_PROGRAMMES];
        final int[] length = new int[MAX_PROGRAMMES];
        final int[] rating = new int[MAX_PROGRAMMES];
        final int[] playsOwed = new int[MAX_PROGRAMMES];

        /** Only while there are less than MAX_PROGRAMMES. */
        int append(int itsKind, int itsLength, int itsRating) {
            kind[count] = itsKind;
            length[count] = itsLength;
            rating[count] = itsRating;
            playsOwed[count] = 0;
            return count++;
        }

        void copyFrom(Programmes other) {
            count = other.count;
            System.arraycopy(other.kind, 0, kind, 0, count);
            System.arraycopy(other.length, 0, length, 0, count);
            System.arraycopy(other.rating, 0, rating, 0, count);
            System.arraycopy(other.playsOwed, 0, playsOwed, 0, count);
        }
    }

    private static final class Rights {
        int count;
        final int[] programme = new int[MAX_RIGHTS];
        final int[] from = new int[MAX_RIGHTS];
        final int[] to = new int[MAX_RIGHTS];
        final int[] plays = new int[MAX_RIGHTS];

        /** Only while there are less than MAX_RIGHTS. */
        int append(int itsProgramme, int itsFrom, int itsTo, int itsPlays) {
            programme[count] = itsProgramme;
            from[count] = itsFrom;
            to[count] = itsTo;
            plays[count] = itsPlays;
            return count++;
        }

        boolean covers(int right, int itemsProgramme, int start, int end) {
            return programme[right] == itemsProgramme && from[right] <= start && end <= to[right];
        }

        void copyFrom(Rights other) {
            count = other.count;
            System.arraycopy(other.programme, 0, programme, 0, count);
            System.arraycopy(other.from, 0, from, 0, count);
            System.arraycopy(other.to, 0, to, 0, count);
            System.arraycopy(other.plays, 0, plays, 0, count);
        }
    }

    private static final class Blackouts {
        int count;
        final int[] from = new int[MAX_BLACKOUTS];
        final int[] to = new int[MAX_BLACKOUTS];
        final int[] rating = new int[MAX_BLACKOUTS];

        /** Only while there are less than MAX_BLACKOUTS. */
        int append(int itsFrom, int itsTo, int itsRating) {
            from[count] = itsFrom;
            to[count] = itsTo;
            rating[count] = itsRating;
            return count++;
        }

        /** The time at which a blackout ends that minutes of this rating from start to end would break, or NONE. */
        int darkUntil(int itemsRating, int start, int end) {
            for (int b = 0; b < count; b++) {
                if (itemsRating < rating[b]) {
                    continue;
                }
                for (int midnight = start - start % DAY; midnight < end; midnight += DAY) {
                    if (start < midnight + to[b] && midnight + from[b] < end) {
                        return midnight + to[b];
                    }
                }
            }
            return NONE;
        }

        void copyFrom(Blackouts other) {
            count = other.count;
            System.arraycopy(other.from, 0, from, 0, count);
            System.arraycopy(other.to, 0, to, 0, count);
            System.arraycopy(other.rating, 0, rating, 0, count);
        }
    }

    /** The items in the order of their starts. */
    private static final class Items {
        int count;
        final int[] programme = new int[MAX_ITEMS];
        final int[] start = new int[MAX_ITEMS];
        final int[] length = new int[MAX_ITEMS];
        /** 1 if it is fixed, otherwise 0. */
        final int[] fixed = new int[MAX_ITEMS];

        int end(int item) {
            return start[item] + length[item];
        }

        /** The first item with a minute in the interval, or NONE. */
        int firstIn(int from, int to) {
            for (int i = 0; i < count; i++) {
                if (start[i] < to && end(i) > from) {
                    return i;
                }
            }
            return NONE;
        }

        /** The item that begins at the time, or NONE. */
        int beginningAt(int time) {
            for (int i = 0; i < count; i++) {
                if (start[i] == time) {
                    return i;
                }
            }
            return NONE;
        }

        /** The item that ends at the time, or NONE. */
        int endingAt(int time) {
            for (int i = 0; i < count; i++) {
                if (end(i) == time) {
                    return i;
                }
            }
            return NONE;
        }

        int minutesIn(int item, int from, int to) {
            return Math.max(0, Math.min(end(item), to) - Math.max(start[item], from));
        }

        int minutesOf(int itsProgramme) {
            int number = 0;
            for (int i = 0; i < count; i++) {
                if (programme[i] == itsProgramme) {
                    number += length[i];
                }
            }
            return number;
        }

        int indexFor(int time) {
            int index = 0;
            for (int i = 0; i < count; i++) {
                if (start[i] < time) {
                    index++;
                }
            }
            return index;
        }

        /** Only while there are less than MAX_ITEMS. */
        void insert(int at, int itsProgramme, int itsStart, int itsLength, boolean isFixed) {
            move(at, at + 1);
            programme[at] = itsProgramme;
            start[at] = itsStart;
            length[at] = itsLength;
            fixed[at] = isFixed ? 1 : 0;
            count++;
        }

        void delete(int item) {
            move(item + 1, item);
            count--;
        }

        /** Moves the items from one index on to another index. */
        private void move(int from, int to) {
            System.arraycopy(programme, from, programme, to, count - from);
            System.arraycopy(start, from, start, to, count - from);
            System.arraycopy(length, from, length, to, count - from);
            System.arraycopy(fixed, from, fixed, to, count - from);
        }

        void copyFrom(Items other) {
            count = other.count;
            System.arraycopy(other.programme, 0, programme, 0, count);
            System.arraycopy(other.start, 0, start, 0, count);
            System.arraycopy(other.length, 0, length, 0, count);
            System.arraycopy(other.fixed, 0, fixed, 0, count);
        }
    }

    private static final class Week {
        final Programmes programmes = new Programmes();
        final Rights rights = new Rights();
        final Blackouts blackouts = new Blackouts();
        final Items items = new Items();

        void copyFrom(Week other) {
            programmes.copyFrom(other.programmes);
            rights.copyFrom(other.rights);
            blackouts.copyFrom(other.blackouts);
            items.copyFrom(other.items);
        }
    }

    /** A ring of the latest states. */
    private static final class History {
        int count;
        private int oldest;
        private final Week[] states = new Week[MAX_STATES];

        History() {
            for (int i = 0; i < MAX_STATES; i++) {
                states[i] = new Week();
            }
        }

        void keep(Week week) {
            if (count == MAX_STATES) {
                oldest = (oldest + 1) % MAX_STATES;
                count--;
            }
            states[(oldest + count) % MAX_STATES].copyFrom(week);
            count++;
        }

        /** Only while there is a state. */
        void takeBack(Week week) {
            count--;
            week.copyFrom(states[(oldest + count) % MAX_STATES]);
        }
    }

    // ---- the use of rights

    /** Entries in the order of their starts, each an item that is there or would be, and the rights that they use. */
    private static final class Uses {
        /** A programme that is asked for comes to the items that are there. */
        private static final int ROOM = MAX_ITEMS + 1;

        private int count;
        private final int[] programme = new int[ROOM];
        private final int[] start = new int[ROOM];
        private final int[] end = new int[ROOM];
        final int[] right = new int[ROOM];
        final int[] playsLeft = new int[MAX_RIGHTS];

        void clear() {
            count = 0;
        }

        /** Of entries with the same start the one that was added first stays first. */
        void add(int itsProgramme, int itsStart, int itsEnd) {
            if (count >= ROOM) {
                return;
            }
            int at = count;
            for (; at > 0 && start[at - 1] > itsStart; at--) {
                programme[at] = programme[at - 1];
                start[at] = start[at - 1];
                end[at] = end[at - 1];
            }
            programme[at] = itsProgramme;
            start[at] = itsStart;
            end[at] = itsEnd;
            count++;
        }

        /** Lets the entries use the rights; false if one of them finds none. */
        boolean share(Rights rights) {
            System.arraycopy(rights.plays, 0, playsLeft, 0, rights.count);
            boolean allFound = true;
            for (int i = 0; i < count; i++) {
                right[i] = rightFor(i, rights);
                if (right[i] == NONE) {
                    allFound = false;
                } else {
                    playsLeft[right[i]]--;
                }
            }
            return allFound;
        }

        private int rightFor(int entry, Rights rights) {
            int best = NONE;
            for (int r = 0; r < rights.count; r++) {
                if (playsLeft[r] > 0
                        && rights.covers(r, programme[entry], start[entry], end[entry])
                        && (best == NONE || rights.to[r] < rights.to[best])) {
                    best = r;
                }
            }
            return best;
        }
    }

    // ---- filling

    /** The search for the shortest sequence of fillers, from the end of the interval to its beginning. */
    private static final class Filling {
        /** More items than any sequence has: there is no sequence. */
        private static final int ENDLESS = MAX_FILL + 1;

        final int[] chosen = new int[MAX_FILL];
        private int from;
        private int length;
        private int fillerAfter;
        // For each minute of the interval the filler that begins the best sequence from there to the end,
        // and the one that begins the best of those that begin otherwise.
        private final int[] best = new int[MAX_FILL];
        private final int[] fewest = new int[MAX_FILL];
        private final int[] second = new int[MAX_FILL];
        private final int[] fewestOfSecond = new int[MAX_FILL];

        /** Puts the sequence into chosen and answers its number of items, or NONE. */
        int find(Week week, int itsFrom, int itsTo) {
            from = itsFrom;
            length = Math.min(itsTo - itsFrom, MAX_FILL);
            fillerAfter = fillerOf(week, week.items.beginningAt(itsTo));
            for (int at = length - 1; at >= 0; at--) {
                settle(week, at);
            }
            return choose(week.programmes, fillerOf(week, week.items.endingAt(itsFrom)));
        }

        private static int fillerOf(Week week, int item) {
            if (item < 0 || item >= week.items.count) {
                return NONE;
            }
            int programme = week.items.programme[item];
            return week.programmes.kind[programme] == FILLER ? programme : NONE;
        }

        private void settle(Week week, int at) {
            best[at] = NONE;
            fewest[at] = ENDLESS;
            second[at] = NONE;
            fewestOfSecond[at] = ENDLESS;
            for (int p = 0; p < week.programmes.count; p++) {
                int number = itemsWith(p, week, at);
                if (number < fewest[at]) {
                    second[at] = best[at];
                    fewestOfSecond[at] = fewest[at];
                    best[at] = p;
                    fewest[at] = number;
                } else if (number < fewestOfSecond[at]) {
                    second[at] = p;
                    fewestOfSecond[at] = number;
                }
            }
        }

        /** The fewest items from a minute of the interval to its end if the programme is the first of them. */
        private int itemsWith(int programme, Week week, int at) {
            int rest = at + week.programmes.length[programme];
            if (week.programmes.kind[programme] != FILLER || rest > length) {
                return ENDLESS;
            }
            if (week.blackouts.darkUntil(week.programmes.rating[programme], from + at, from + rest) != NONE) {
                return ENDLESS;
            }
            if (rest == length) {
                return programme == fillerAfter ? ENDLESS : 1;
            }
            int others = best[rest] == programme ? fewestOfSecond[rest] : fewest[rest];
            return Math.min(others + 1, ENDLESS);
        }

        private int choose(Programmes programmes, int fillerBefore) {
            int number = 0;
            int latest = fillerBefore;
            int at = 0;
            while (at < length && number < MAX_FILL) {
                int next = best[at] == latest ? second[at] : best[at];
                if (next == NONE) {
                    return NONE;
                }
                chosen[number] = next;
                number++;
                at += programmes.length[next];
                latest = next;
            }
            return number;
        }
    }
}
