import java.util.ArrayList;
import java.util.Collections;
import java.util.Comparator;
import java.util.List;
import java.util.TreeMap;
import java.util.TreeSet;

/**
 * The document once more, as plainly as the Java library lets it be said: every question does all
 * known changes anew. It shares no code with EntryMasters, so that both rarely err alike.
 */
final class Model {
    private static final class Entry {
        final int number;
        final int its;
        int parent;
        Integer label;
        final Integer[] values = new Integer[4];

        Entry(int number, int its, int parent, Integer label) {
            this.number = number;
            this.its = its;
            this.parent = parent;
            this.label = label;
        }
    }

    private record Change(char kind, int number, int master, int time, int entry, int a, int b, int its) {}

    private record Filter(int kind, int a, int b) {}

    private final TreeSet<Integer> needed = new TreeSet<>();
    private final TreeSet<Integer> allowed = new TreeSet<>();
    private final List<Change> changes = new ArrayList<>();
    private final List<TreeSet<Integer>> known = List.of(new TreeSet<>(), new TreeSet<>());
    private final TreeMap<Integer, Integer> rights = new TreeMap<>();
    private final TreeSet<Integer> referrals = new TreeSet<>();
    private final List<Filter> filters = new ArrayList<>();

    Model() {
        for (int i = 0; i < 12; i++) {
            allowed.add(i);
        }
    }

    // ---- the tree, made anew for each question

    private TreeMap<Integer, Entry> tree(int master) {
        index(master == 0 || master == 1);
        TreeMap<Integer, Entry> tree = new TreeMap<>();
        tree.put(0, new Entry(0, 0, -1, null));
        tree.put(1, new Entry(1, 0, 0, 99));
        List<Change> order = new ArrayList<>();
        for (int c : known.get(master)) {
            order.add(changes.get(c));
        }
        order.sort(Comparator.comparingInt(Change::time).thenComparingInt(Change::master));
        for (Change c : order) {
            perform(tree, c);
        }
        return tree;
    }

    private void perform(TreeMap<Integer, Entry> tree, Change c) {
        Entry e = tree.get(c.entry);
        if (c.kind == 'a') {
            Entry added = new Entry(c.entry, c.its, -1, c.b);
            tree.put(c.entry, added);
            getParent(tree, added, tree.containsKey(c.a) ? c.a : 1);
        } else if (e == null) {
            return;
        } else if (c.kind == 's') {
            if (allowed.contains(e.its * 4 + c.a)) {
                e.values[c.a] = c.b == -1 ? null : c.b;
            }
        } else if (c.kind == 'm') {
            if (!lineOf(tree, c.a).contains(c.entry)) {
                e.label = c.b;
                getParent(tree, e, tree.containsKey(c.a) ? c.a : 1);
            }
        } else {
            tree.remove(c.entry);
            for (Entry child : tree.values()) {
                if (child.parent == c.entry) {
                    getParent(tree, child, 1);
                }
            }
        }
    }

    private static void getParent(TreeMap<Integer, Entry> tree, Entry e, int parent) {
        e.parent = parent;
        for (Entry other : tree.values()) {
            if (other != e && other.parent == parent && like(other.label, e.label)) {
                e.label = null;
            }
        }
    }

    private static boolean like(Integer a, Integer b) {
        return a != null && b != null && Math.abs(a - b) % 50 == 0;
    }

    /** The entry and all above it. */
    private static List<Integer> lineOf(TreeMap<Integer, Entry> tree, int entry) {
        List<Integer> line = new ArrayList<>();
        for (Entry e = tree.get(entry); e != null; e = tree.get(e.parent)) {
            line.add(e.number);
        }
        return line;
    }

    private static Entry under(TreeMap<Integer, Entry> tree, int parent, int label) {
        for (Entry e : tree.values()) {
            if (e.parent == parent && like(e.label, label)) {
                return e;
            }
        }
        return null;
    }

    // ---- the face

    void setClass(int its, int need, int allow) {
        index(its >= 0 && its < 3);
        argument(need >= 0 && need < 16 && allow >= 0 && allow < 16);
        state(changes.isEmpty());
        for (int a = 0; a < 4; a++) {
            boolean needs = (need & 1 << a) != 0;
            put(needed, its * 4 + a, needs);
            put(allowed, its * 4 + a, needs || (allow & 1 << a) != 0);
        }
    }

    private static void put(TreeSet<Integer> set, int element, boolean isIn) {
        if (isIn) {
            set.add(element);
        } else {
            set.remove(element);
        }
    }

    private int change(char kind, int master, int entry, int a, int b, int its) {
        int time = 0;
        for (int c : known.get(master)) {
            time = Math.max(time, changes.get(c).time);
        }
        int number = changes.size();
        int subject = kind == 'a' ? number + 2 : entry;
        changes.add(new Change(kind, number, master, time + 1, subject, a, b, its));
        known.get(master).add(number);
        return subject;
    }

    int add(int master, int parent, int label, int its) {
        TreeMap<Integer, Entry> tree = tree(master);
        index(tree.containsKey(parent) && its >= 0 && its < 3);
        argument(label >= 0 && label < 100);
        state(changes.size() < 40 && under(tree, parent, label) == null);
        return change('a', master, -1, parent, label, its);
    }

    int set(int master, int entry, int attribute, int value) {
        TreeMap<Integer, Entry> tree = tree(master);
        index(tree.containsKey(entry) && attribute >= 0 && attribute < 4);
        argument(value >= -1 && value < 10);
        Entry e = tree.get(entry);
        state(changes.size() < 40 && allowed.contains(e.its * 4 + attribute));
        change('s', master, entry, attribute, value, -1);
        return number(e.values[attribute]);
    }

    int move(int master, int entry, int parent, int label) {
        TreeMap<Integer, Entry> tree = tree(master);
        index(tree.containsKey(entry) && tree.containsKey(parent));
        argument(label >= 0 && label < 100);
        state(changes.size() < 40 && entry > 1 && !lineOf(tree, parent).contains(entry));
        Entry like = under(tree, parent, label);
        state(like == null || like.number == entry);
        change('m', master, entry, parent, label, -1);
        return tree.get(entry).parent;
    }

    int delete(int master, int entry) {
        TreeMap<Integer, Entry> tree = tree(master);
        index(tree.containsKey(entry));
        state(changes.size() < 40 && entry > 1);
        for (Entry e : tree.values()) {
            state(e.parent != entry);
        }
        change('d', master, entry, -1, -1, -1);
        return tree.size() - 1;
    }

    boolean carry(int change, int master) {
        index(change >= 0 && change < changes.size() && (master == 0 || master == 1));
        return known.get(master).add(change);
    }

    int changes() {
        return changes.size();
    }

    int timeOf(int change) {
        index(change >= 0 && change < changes.size());
        return changes.get(change).time;
    }

    int entries(int master) {
        return tree(master).size();
    }

    boolean isThere(int master, int entry) {
        return tree(master).containsKey(entry);
    }

    private Entry entry(int master, int entry) {
        Entry e = tree(master).get(entry);
        index(e != null);
        return e;
    }

    int parentOf(int master, int entry) {
        return entry(master, entry).parent;
    }

    int labelOf(int master, int entry) {
        return number(entry(master, entry).label);
    }

    int value(int master, int entry, int attribute) {
        Entry e = entry(master, entry);
        index(attribute >= 0 && attribute < 4);
        return number(e.values[attribute]);
    }

    boolean isWhole(int master, int entry) {
        Entry e = entry(master, entry);
        boolean isWhole = true;
        for (int need : needed) {
            isWhole &= need / 4 != e.its || e.values[need % 4] != null;
        }
        return isWhole;
    }

    int find(int master, int parent, int label) {
        entry(master, parent);
        argument(label >= 0 && label < 100);
        Entry e = under(tree(master), parent, label);
        return e == null ? -1 : e.number;
    }

    boolean areAlike() {
        return text(tree(0)).equals(text(tree(1)));
    }

    private static String text(TreeMap<Integer, Entry> tree) {
        StringBuilder text = new StringBuilder();
        for (Entry e : tree.values()) {
            text.append(e.number).append(' ').append(e.its).append(' ').append(e.parent).append(' ');
            text.append(e.label).append(java.util.Arrays.toString(e.values)).append('\n');
        }
        return text.toString();
    }

    void setRight(int user, int entry, int right) {
        index(user >= 0 && user < 3 && entry >= 0 && entry < 42);
        argument(right >= -1 && right < 2);
        rights.put(user * 100 + entry, right);
    }

    void refer(int entry, boolean isReferral) {
        index(entry >= 0 && entry < 42);
        put(referrals, entry, isReferral);
    }

    int test(int kind, int attribute, int value) {
        argument(kind >= 0 && kind < 3 && attribute >= 0 && attribute < 4 && value >= 0 && value < 10);
        state(filters.size() < 20);
        filters.add(new Filter(kind, attribute, value));
        return filters.size() - 1;
    }

    int join(int kind, int first, int second) {
        index(first >= 0 && first < filters.size() && second >= 0 && second < filters.size());
        argument(kind >= 0 && kind < 3);
        state(filters.size() < 20);
        filters.add(new Filter(3 + kind, first, second));
        return filters.size() - 1;
    }

    int holds(int master, int filter, int entry) {
        tree(master);
        index(filter >= 0 && filter < filters.size());
        Boolean truth = truth(filter, entry(master, entry), new TreeMap<>());
        return truth == null ? -1 : truth ? 1 : 0;
    }

    /** Null is unknown; what was found out is kept, as filters may be joined with themselves. */
    private Boolean truth(int filter, Entry e, TreeMap<Integer, Boolean> seen) {
        if (!seen.containsKey(filter)) {
            Filter f = filters.get(filter);
            seen.put(filter, f.kind < 3 ? truthOfTest(f, e) : truthOfJoin(f, e, seen));
        }
        return seen.get(filter);
    }

    private Boolean truthOfTest(Filter f, Entry e) {
        if (!allowed.contains(e.its * 4 + f.a)) {
            return null;
        }
        Integer value = e.values[f.a];
        return value != null && (f.kind == 0 || value == f.b || f.kind == 2 && value > f.b);
    }

    private Boolean truthOfJoin(Filter f, Entry e, TreeMap<Integer, Boolean> seen) {
        Boolean one = truth(f.a, e, seen);
        if (f.kind == 5) {
            return one == null ? null : Boolean.valueOf(!one);
        }
        Boolean two = truth(f.b, e, seen);
        boolean decides = f.kind == 4;
        if (one != null && one == decides || two != null && two == decides) {
            return decides;
        }
        return one == null || two == null ? null : Boolean.valueOf(!decides);
    }

    int search(int master, int user, int base, int scope, int filter, int place) {
        TreeMap<Integer, Entry> tree = tree(master);
        index(user >= 0 && user < 3 && tree.containsKey(base));
        index(filter >= 0 && filter < filters.size() && place >= 0);
        argument(scope >= 0 && scope < 3);
        List<Entry> all = new ArrayList<>();
        if (scope != 1) {
            all.add(tree.get(base));
        }
        if (scope != 0) {
            gather(tree, base, scope == 2, all);
        }
        all.removeIf(e -> !Boolean.TRUE.equals(truth(filter, e, new TreeMap<>())) || !mayRead(tree, user, e));
        return place < all.size() ? all.get(place).number : -1;
    }

    private void gather(TreeMap<Integer, Entry> tree, int parent, boolean isDeep, List<Entry> all) {
        List<Entry> children = new ArrayList<>(tree.values());
        children.removeIf(e -> e.parent != parent || referrals.contains(e.number));
        Comparator<Entry> byLabel = Comparator.comparingInt(e -> e.label == null ? 1000 : e.label);
        Collections.sort(children, byLabel.thenComparingInt(e -> e.number));
        for (Entry child : children) {
            all.add(child);
            if (isDeep) {
                gather(tree, child.number, true, all);
            }
        }
    }

    private boolean mayRead(TreeMap<Integer, Entry> tree, int user, Entry e) {
        for (int above : lineOf(tree, e.number)) {
            int right = rights.getOrDefault(user * 100 + above, -1);
            if (right != -1) {
                return right == 0;
            }
        }
        return true;
    }

    private static int number(Integer n) {
        return n == null ? -1 : n;
    }

    private static void index(boolean isGood) {
        if (!isGood) {
            throw new IndexOutOfBoundsException();
        }
    }

    private static void argument(boolean isGood) {
        if (!isGood) {
            throw new IllegalArgumentException();
        }
    }

    private static void state(boolean isGood) {
        if (!isGood) {
            throw new IllegalStateException();
        }
    }
}
