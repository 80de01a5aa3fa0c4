import java.util.ArrayList;
import java.util.Comparator;
import java.util.HashMap;
import java.util.List;
import java.util.Map;
import java.util.TreeMap;

/**
 * The document once more, minute by minute and start by start, with no regard to speed or memory: what
 * RadioWeek answers is compared with it.
 */
final class PlainWeek {
    static final int BAD = -1, STATE = -2, FULL = -3, CLASH = -4, RIGHT = -5, DARK = -6, NONE = -9;

    private record Programme(int kind, int length, int rating) {}

    private record Right(int programme, int from, int to, int plays) {}

    private record Blackout(int from, int to, int rating) {}

    private record Item(int programme, int start, int length, boolean fixed) {
        int end() {
            return start + length;
        }

        Item at(int from, int minutes) {
            return new Item(programme, from, minutes, fixed);
        }
    }

    private record State(List<Programme> programmes, List<Right> rights, List<Blackout> blackouts,
            List<Item> items, List<Integer> owed) {
        State copy() {
            return new State(new ArrayList<>(programmes), new ArrayList<>(rights), new ArrayList<>(blackouts),
                    new ArrayList<>(items), new ArrayList<>(owed));
        }
    }

    private State now = new State(new ArrayList<>(), new ArrayList<>(), new ArrayList<>(), new ArrayList<>(),
            new ArrayList<>());
    private final List<State> history = new ArrayList<>();

    private void act() {
        history.add(now.copy());
        if (history.size() > 5) {
            history.remove(0);
        }
    }

    private static boolean in(int number, int least, int greatest) {
        return least <= number && number <= greatest;
    }

    private boolean noProgramme(int p) {
        return !in(p, 0, now.programmes.size() - 1);
    }

    private boolean noItem(int i) {
        return !in(i, 0, now.items.size() - 1);
    }

    int addProgramme(int kind, int length, int rating) {
        if (!in(kind, 0, 3) || !in(length, 1, 240) || !in(rating, 0, 3)) return BAD;
        if (now.programmes.size() == 16) return FULL;
        act();
        now.programmes.add(new Programme(kind, length, rating));
        now.owed.add(0);
        return now.programmes.size() - 1;
    }

    int addRight(int programme, int from, int to, int plays) {
        if (noProgramme(programme) || !in(from, 0, 10079) || !in(to, from + 1, 10080) || !in(plays, 1, 50)) return BAD;
        if (now.rights.size() == 30) return FULL;
        act();
        now.rights.add(new Right(programme, from, to, plays));
        return now.rights.size() - 1;
    }

    int addBlackout(int from, int to, int rating) {
        if (!in(from, 0, 1439) || !in(to, from + 1, 1440) || !in(rating, 0, 3)) return BAD;
        if (now.blackouts.size() == 10) return FULL;
        act();
        now.blackouts.add(new Blackout(from, to, rating));
        return now.blackouts.size() - 1;
    }

    private boolean dark(int programme, int start, int end) {
        for (int t = start; t < end; t++) {
            for (Blackout b : now.blackouts) {
                if (now.programmes.get(programme).rating >= b.rating && t % 1440 >= b.from && t % 1440 < b.to) return true;
            }
        }
        return false;
    }

    /** What each item of the list uses; the list is in any order, of equal starts the first goes first. */
    private Map<Item, Integer> uses(List<Item> items, int[] left) {
        for (int r = 0; r < left.length; r++) left[r] = now.rights.get(r).plays;
        List<Item> sorted = new ArrayList<>(items);
        sorted.sort(Comparator.comparingInt(Item::start));
        Map<Item, Integer> found = new java.util.IdentityHashMap<>();
        for (Item item : sorted) {
            int best = NONE;
            if (now.programmes.get(item.programme).kind != 2) {
                for (int r = 0; r < left.length; r++) {
                    Right right = now.rights.get(r);
                    boolean can = right.programme == item.programme && item.start >= right.from
                            && item.end() <= right.to && left[r] > 0;
                    if (can && (best == NONE || right.to < now.rights.get(best).to)) best = r;
                }
            }
            if (best != NONE) left[best]--;
            found.put(item, best);
        }
        return found;
    }

    private boolean rightsBroken(int programme, List<Item> items) {
        if (now.programmes.get(programme).kind == 2) return false;
        List<Item> own = new ArrayList<>();
        for (Item item : items) if (item.programme == programme) own.add(item);
        return uses(own, new int[now.rights.size()]).containsValue(NONE);
    }

    int mayPlace(int programme, int start) {
        if (noProgramme(programme) || !in(start, 0, 10079)) return BAD;
        if (now.items.size() == 60) return FULL;
        Item item = new Item(programme, start, now.programmes.get(programme).length, false);
        if (item.end() > 10080) return CLASH;
        for (Item other : now.items) if (other.start < item.end() && item.start < other.end()) return CLASH;
        List<Item> all = new ArrayList<>(now.items);
        all.add(item);
        if (rightsBroken(programme, all)) return RIGHT;
        return dark(programme, start, item.end()) ? DARK : 0;
    }

    private int add(int programme, int start, boolean fixed) {
        Item item = new Item(programme, start, now.programmes.get(programme).length, fixed);
        now.items.add(item);
        now.items.sort(Comparator.comparingInt(Item::start));
        return now.items.indexOf(item);
    }

    int place(int programme, int start, boolean fixed) {
        int answer = mayPlace(programme, start);
        if (answer != 0) return answer;
        act();
        return add(programme, start, fixed);
    }

    int remove(int item) {
        if (noItem(item)) return BAD;
        act();
        now.items.remove(item);
        return now.items.size();
    }

    int earliest(int programme, int after) {
        if (noProgramme(programme) || !in(after, 0, 10079)) return BAD;
        for (int start = after; start <= after + 1439 && start <= 10079; start++) {
            if (mayPlace(programme, start) == 0) return start;
        }
        return NONE;
    }

    private static int compare(List<Integer> a, List<Integer> b) {
        for (int i = 0; i < Math.min(a.size(), b.size()); i++) {
            if (!a.get(i).equals(b.get(i))) return a.get(i) - b.get(i);
        }
        return a.size() - b.size();
    }

    private boolean fillerThere(int programme, int time, boolean ends) {
        if (now.programmes.get(programme).kind != 2) return false;
        for (Item item : now.items) {
            if (item.programme == programme && (ends ? item.end() : item.start) == time) return true;
        }
        return false;
    }

    /** From the beginning on: for each minute and latest filler, the first of the sequences of n items. */
    private List<Integer> sequence(int from, int to) {
        Map<List<Integer>, List<Integer>> reached = new HashMap<>();
        reached.put(List.of(from, NONE), List.of());
        for (int n = 1; n <= to - from; n++) {
            Map<List<Integer>, List<Integer>> further = new HashMap<>();
            List<Integer> best = null;
            for (Map.Entry<List<Integer>, List<Integer>> entry : reached.entrySet()) {
                int at = entry.getKey().get(0);
                int latest = entry.getKey().get(1);
                for (int p = 0; p < now.programmes.size(); p++) {
                    int end = at + now.programmes.get(p).length;
                    if (now.programmes.get(p).kind != 2 || p == latest || end > to || dark(p, at, end)) continue;
                    if (at == from && fillerThere(p, from, true)) continue;
                    if (end == to && fillerThere(p, to, false)) continue;
                    List<Integer> longer = new ArrayList<>(entry.getValue());
                    longer.add(p);
                    further.merge(List.of(end, p), longer, (a, b) -> compare(a, b) <= 0 ? a : b);
                    if (end == to && (best == null || compare(longer, best) < 0)) best = longer;
                }
            }
            if (best != null) return best;
            reached = further;
        }
        return null;
    }

    int fill(int from, int to) {
        if (!in(from, 0, 10079) || !in(to, from + 1, Math.min(from + 240, 10080))) return BAD;
        for (int t = from; t < to; t++) if (onAir(t) != NONE) return CLASH;
        List<Integer> found = sequence(from, to);
        if (found == null) return NONE;
        if (now.items.size() + found.size() > 60) return FULL;
        act();
        int start = from;
        for (int p : found) {
            add(p, start, false);
            start += now.programmes.get(p).length;
        }
        return found.size();
    }

    int runOver(int item, int minutes) {
        if (noItem(item) || !in(minutes, 1, 120)) return BAD;
        Item live = now.items.get(item);
        if (now.programmes.get(live.programme).kind != 1) return STATE;
        if (live.end() + minutes > 10080) return CLASH;
        act();
        List<Item> treated = new ArrayList<>(now.items.subList(0, item));
        List<Item> untreated = new ArrayList<>(now.items.subList(item + 1, now.items.size()));
        treated.add(live.at(live.start, live.length + minutes));
        int e = live.end() + minutes;
        int dropped = 0;
        while (!untreated.isEmpty() && untreated.get(0).start < e) {
            Item next = untreated.remove(0);
            Item moved = moved(next, e, treated, untreated);
            if (moved == null) {
                dropped++;
                if (now.programmes.get(next.programme).kind == 3) {
                    now.owed.set(next.programme, now.owed.get(next.programme) + 1);
                }
            } else {
                treated.add(moved);
                e = moved.end();
            }
        }
        treated.addAll(untreated);
        now.items.clear();
        now.items.addAll(treated);
        return dropped;
    }

    private Item moved(Item item, int e, List<Item> treated, List<Item> untreated) {
        if (now.programmes.get(item.programme).kind == 2) return null;
        if (item.fixed) return item.end() > e ? item.at(e, item.end() - e) : null;
        Item pushed = item.at(e, item.length);
        if (pushed.end() > 10080 || dark(item.programme, e, pushed.end())) return null;
        List<Item> all = new ArrayList<>(treated);
        all.add(pushed);
        all.addAll(untreated);
        return rightsBroken(item.programme, all) ? null : pushed;
    }

    int makeGood(int programme, int after) {
        if (noProgramme(programme) || !in(after, 0, 10079)) return BAD;
        if (now.owed.get(programme) == 0) return STATE;
        int start = earliest(programme, after);
        if (start == NONE) return NONE;
        act();
        add(programme, start, false);
        now.owed.set(programme, now.owed.get(programme) - 1);
        return start;
    }

    int items() {
        return now.items.size();
    }

    int item(int item, int what) {
        if (noItem(item) || !in(what, 0, 4)) return BAD;
        Item i = now.items.get(item);
        if (what == 4) return uses(now.items, new int[now.rights.size()]).get(i);
        return new int[] {i.programme, i.start, i.length, i.fixed ? 1 : 0}[what];
    }

    int onAir(int time) {
        if (!in(time, 0, 10079)) return BAD;
        for (int i = 0; i < now.items.size(); i++) {
            if (now.items.get(i).start <= time && time < now.items.get(i).end()) return i;
        }
        return NONE;
    }

    int left(int right) {
        if (!in(right, 0, now.rights.size() - 1)) return BAD;
        int[] left = new int[now.rights.size()];
        uses(now.items, left);
        return left[right];
    }

    int owed(int programme) {
        return noProgramme(programme) ? BAD : now.owed.get(programme);
    }

    private int kindAt(int time) {
        int i = onAir(time);
        return i == NONE ? 4 : now.programmes.get(now.items.get(i).programme).kind;
    }

    int minutes(int kind, int from, int to) {
        if (!in(kind, 0, 4) || !in(from, 0, 10079) || !in(to, from + 1, 10080)) return BAD;
        int number = 0;
        for (int t = from; t < to; t++) if (kindAt(t) == kind) number++;
        return number;
    }

    int silence(int from, int to) {
        if (!in(from, 0, 10079) || !in(to, from + 1, 10080)) return BAD;
        int longest = 0, beginning = 0, length = 0;
        for (int t = from; t < to; t++) {
            length = onAir(t) == NONE ? length + 1 : 0;
            if (length > longest) {
                longest = length;
                beginning = t + 1 - length;
            }
        }
        return longest == 0 ? NONE : 10081 * longest + beginning;
    }

    int ranked(int i) {
        TreeMap<Integer, Integer> order = new TreeMap<>();
        for (int p = 0; p < now.programmes.size(); p++) {
            int minutes = 0;
            for (Item item : now.items) if (item.programme == p) minutes += item.length;
            order.put(-20 * minutes + p, p);
        }
        return in(i, 0, order.size() - 1) ? new ArrayList<>(order.values()).get(i) : BAD;
    }

    int broken() {
        int number = 0;
        for (Item item : now.items) if (dark(item.programme, item.start, item.end())) number++;
        return number;
    }

    int line(int item, int k) {
        if (noItem(item) || k < 0) return BAD;
        Item i = now.items.get(item);
        int minute = i.start % 1440;
        String line = String.format("%d %02d:%02d +%d P%d%s", i.start / 1440, minute / 60, minute % 60, i.length,
                i.programme, i.fixed ? "!" : "");
        return k < line.length() ? line.charAt(k) : NONE;
    }

    int undo() {
        if (history.isEmpty()) return NONE;
        now = history.remove(history.size() - 1);
        return history.size();
    }

    long fingerprint() {
        List<Integer> numbers = new ArrayList<>(List.of(now.programmes.size(), now.rights.size(), now.blackouts.size(),
                items()));
        for (int i = 0; i < items(); i++) for (int what = 0; what <= 4; what++) numbers.add(item(i, what));
        numbers.addAll(now.owed);
        for (int r = 0; r < now.rights.size(); r++) numbers.add(left(r));
        long print = 73;
        for (int number : numbers) print = 31 * print + number;
        return print;
    }
}
