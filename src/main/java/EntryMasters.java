import java.util.Arrays;

/**
 * A directory of entries in a tree, kept by two masters that change alike.
 *
 * <p>Each master does the changes that it knows by rising stamps; so two masters that know the same
 * changes hold the same tree, in whatever order the changes came to them.
 */
public final class EntryMasters {
    /** None. */
    public static final int NONE = -1;
    /** Rights. */
    public static final int ALLOW = 0, DENY = 1;
    /** Scopes of a search. */
    public static final int BASE = 0, ONE = 1, ALL = 2;

    private static final int MASTERS = 2;
    private static final int USERS = 3;
    private static final int CLASSES = 3;
    private static final int ATTRIBUTES = 4;
    private static final int VALUES = 10;
    private static final int LABELS = 100;
    private static final int ALL_ATTRIBUTES = 15;
    private static final int REST_OF_LIKE_LABELS = 50;

    private static final int ROOT = 0;
    private static final int LOST = 1;
    private static final int LABEL_OF_LOST = 99;
    private static final int ENTRIES_AT_FIRST = 2;

    private static final int MOST_CHANGES = 40;
    private static final int MOST_ENTRIES = MOST_CHANGES + ENTRIES_AT_FIRST;
    private static final int MOST_FILTERS = 20;

    private static final int ADDING = 0;
    private static final int SETTING = 1;
    private static final int MOVING = 2;
    private static final int DELETING = 3;

    private static final int UNKNOWN = NONE;
    private static final int FALSE = 0;
    private static final int TRUE = 1;

    private final Classes classes;
    private final Log log;
    private final Tree firstTree;
    private final Tree secondTree;
    private final Marks marks;
    private final Filters filters;

    /** No changes, rights, referrals and filters; the classes need nothing and allow all. */
    public EntryMasters() {
        classes = new Classes();
        log = new Log();
        firstTree = new Tree(0, log, classes);
        secondTree = new Tree(1, log, classes);
        marks = new Marks();
        filters = new Filters();
    }

    // ---- classes

    /**
     * Sets a class, as long as no change was made.
     *
     * @throws IndexOutOfBoundsException if there is no such class
     * @throws IllegalArgumentException if needed or allowed is out of range
     * @throws IllegalStateException if a change was made
     */
    public void setClass(int its, int needed, int allowed)
            throws IndexOutOfBoundsException, IllegalArgumentException, IllegalStateException {
        checkIndex(its, CLASSES);
        checkArgument(needed, 0, ALL_ATTRIBUTES);
        checkArgument(allowed, 0, ALL_ATTRIBUTES);
        if (log.count > 0) {
            throw new IllegalStateException("a change was made");
        }
        classes.define(its, needed, allowed);
    }

    // ---- changes

    /**
     * Adds an entry at a master; returns its number.
     *
     * @throws IndexOutOfBoundsException if there is no such master, entry in its tree, or class
     * @throws IllegalArgumentException if label is out of range
     * @throws IllegalStateException if there are 40 changes, or a label like it is there under the
     *     parent
     */
    public int add(int master, int parent, int label, int its)
            throws IndexOutOfBoundsException, IllegalArgumentException, IllegalStateException {
        Tree tree = treeOf(master);
        checkEntry(tree, parent);
        checkIndex(its, CLASSES);
        checkArgument(label, 0, LABELS - 1);
        checkRoomForChange();
        checkLabelIsFree(tree, parent, label, NONE);
        int entry = log.count + ENTRIES_AT_FIRST;
        tree.learn(log.append(ADDING, tree.stampOfNext(), entry, parent, label, its));
        return entry;
    }

    /**
     * Sets an attribute of an entry at a master; returns the value before.
     *
     * @throws IndexOutOfBoundsException if there is no such master, entry in its tree, or attribute
     * @throws IllegalArgumentException if value is out of range
     * @throws IllegalStateException if there are 40 changes, or its class does not allow the
     *     attribute
     */
    public int set(int master, int entry, int attribute, int value)
            throws IndexOutOfBoundsException, IllegalArgumentException, IllegalStateException {
        Tree tree = treeOf(master);
        checkEntry(tree, entry);
        checkIndex(attribute, ATTRIBUTES);
        checkArgument(value, NONE, VALUES - 1);
        checkRoomForChange();
        if (!tree.mayHold(entry, attribute)) {
            throw new IllegalStateException("the class does not allow the attribute");
        }
        int before = tree.valueAt(entry, attribute);
        tree.learn(log.append(SETTING, tree.stampOfNext(), entry, attribute, value, NONE));
        return before;
    }

    /**
     * Moves or renames an entry, with all below it, at a master; returns the parent before.
     *
     * @throws IndexOutOfBoundsException if there is no such master, or entry in its tree, of either
     * @throws IllegalArgumentException if label is out of range
     * @throws IllegalStateException if there are 40 changes, the entry is the root or the lost one,
     *     the parent is the entry or below it, or a label like it is there under the parent, of
     *     another entry
     */
    public int move(int master, int entry, int parent, int label)
            throws IndexOutOfBoundsException, IllegalArgumentException, IllegalStateException {
        Tree tree = treeOf(master);
        checkEntry(tree, entry);
        checkEntry(tree, parent);
        checkArgument(label, 0, LABELS - 1);
        checkRoomForChange();
        checkIsNotFixed(entry);
        if (tree.isAtOrBelow(parent, entry)) {
            throw new IllegalStateException("the parent is the entry or below it");
        }
        checkLabelIsFree(tree, parent, label, entry);
        int before = tree.parentAt(entry);
        tree.learn(log.append(MOVING, tree.stampOfNext(), entry, parent, label, NONE));
        return before;
    }

    /**
     * Deletes an entry without any below it at a master; returns the number of entries then.
     *
     * @throws IndexOutOfBoundsException if there is no such master, or entry in its tree
     * @throws IllegalStateException if there are 40 changes, the entry is the root or the lost one,
     *     or there is an entry below it
     */
    public int delete(int master, int entry)
            throws IndexOutOfBoundsException, IllegalStateException {
        Tree tree = treeOf(master);
        checkEntry(tree, entry);
        checkRoomForChange();
        checkIsNotFixed(entry);
        if (tree.hasChild(entry)) {
            throw new IllegalStateException("there is an entry below it");
        }
        tree.learn(log.append(DELETING, tree.stampOfNext(), entry, NONE, NONE, NONE));
        return tree.size;
    }

    /**
     * Carries a change to a master; returns whether the master did not know it.
     *
     * @throws IndexOutOfBoundsException if there is no such change or master
     */
    public boolean carry(int change, int master) throws IndexOutOfBoundsException {
        checkIndex(change, log.count);
        Tree tree = treeOf(master);
        if (tree.knows(change)) {
            return false;
        }
        tree.learn(change);
        return true;
    }

    /** Returns the number of changes. */
    public int changes() {
        return log.count;
    }

    /**
     * Returns the time of a change.
     *
     * @throws IndexOutOfBoundsException if there is no such change
     */
    public int timeOf(int change) throws IndexOutOfBoundsException {
        checkIndex(change, log.count);
        return log.timeAt(change);
    }

    // ---- the tree of a master

    /**
     * Returns how many entries there are, the root and the lost one counted.
     *
     * @throws IndexOutOfBoundsException if there is no such master
     */
    public int entries(int master) throws IndexOutOfBoundsException {
        return treeOf(master).size;
    }

    /**
     * Tells whether an entry is there; the entry may be any number.
     *
     * @throws IndexOutOfBoundsException if there is no such master
     */
    public boolean isThere(int master, int entry) throws IndexOutOfBoundsException {
        return treeOf(master).has(entry);
    }

    /**
     * Returns the parent of an entry; NONE for the root.
     *
     * @throws IndexOutOfBoundsException if there is no such master, or entry in its tree
     */
    public int parentOf(int master, int entry) throws IndexOutOfBoundsException {
        Tree tree = treeOf(master);
        checkEntry(tree, entry);
        return tree.parentAt(entry);
    }

    /**
     * Returns the label of an entry, or NONE.
     *
     * @throws IndexOutOfBoundsException if there is no such master, or entry in its tree
     */
    public int labelOf(int master, int entry) throws IndexOutOfBoundsException {
        Tree tree = treeOf(master);
        checkEntry(tree, entry);
        return tree.labelAt(entry);
    }

    /**
     * Returns a value of an entry, or NONE.
     *
     * @throws IndexOutOfBoundsException if there is no such master, entry in its tree, or attribute
     */
    public int value(int master, int entry, int attribute) throws IndexOutOfBoundsException {
        Tree tree = treeOf(master);
        checkEntry(tree, entry);
        checkIndex(attribute, ATTRIBUTES);
        return tree.valueAt(entry, attribute);
    }

    /**
     * Tells whether an entry has all values that its class needs.
     *
     * @throws IndexOutOfBoundsException if there is no such master, or entry in its tree
     */
    public boolean isWhole(int master, int entry) throws IndexOutOfBoundsException {
        Tree tree = treeOf(master);
        checkEntry(tree, entry);
        return tree.hasAllNeeded(entry);
    }

    /**
     * Returns the entry under a parent with a label like one; NONE if there is none.
     *
     * @throws IndexOutOfBoundsException if there is no such master, or entry in its tree
     * @throws IllegalArgumentException if label is out of range
     */
    public int find(int master, int parent, int label)
            throws IndexOutOfBoundsException, IllegalArgumentException {
        Tree tree = treeOf(master);
        checkEntry(tree, parent);
        checkArgument(label, 0, LABELS - 1);
        return tree.childWithLabelLike(parent, label, NONE);
    }

    /** Tells whether the trees of both masters are the same. */
    public boolean areAlike() {
        return firstTree.isSameAs(secondTree);
    }

    // ---- rights, referrals, filters, searches

    /**
     * Sets the right of a user at an entry, for both masters; NONE takes it away.
     *
     * @throws IndexOutOfBoundsException if there is no such user or entry
     * @throws IllegalArgumentException if there is no such right
     */
    public void setRight(int user, int entry, int right)
            throws IndexOutOfBoundsException, IllegalArgumentException {
        checkIndex(user, USERS);
        checkIndex(entry, MOST_ENTRIES);
        checkArgument(right, NONE, DENY);
        marks.putRight(user, entry, right);
    }

    /**
     * Makes an entry a referral, or none, for both masters.
     *
     * @throws IndexOutOfBoundsException if there is no such entry
     */
    public void refer(int entry, boolean isReferral) throws IndexOutOfBoundsException {
        checkIndex(entry, MOST_ENTRIES);
        marks.putReferral(entry, isReferral);
    }

    /**
     * Makes a filter of an attribute: 0 it is present, 1 it has the value, 2 it has the value or
     * more; returns the number of the filter.
     *
     * @throws IllegalArgumentException if an argument is out of range
     * @throws IllegalStateException if there are 20 filters
     */
    public int test(int kind, int attribute, int value)
            throws IllegalArgumentException, IllegalStateException {
        checkArgument(kind, 0, Filters.KINDS_OF_TEST - 1);
        checkArgument(attribute, 0, ATTRIBUTES - 1);
        checkArgument(value, 0, VALUES - 1);
        checkRoomForFilter();
        return filters.append(kind, attribute, value);
    }

    /**
     * Makes a filter of filters: 0 both, 1 either, 2 not the first one; returns the number of the
     * filter.
     *
     * @throws IndexOutOfBoundsException if there is no such filter, of either
     * @throws IllegalArgumentException if kind is out of range
     * @throws IllegalStateException if there are 20 filters
     */
    public int join(int kind, int first, int second)
            throws IndexOutOfBoundsException, IllegalArgumentException, IllegalStateException {
        checkIndex(first, filters.count);
        checkIndex(second, filters.count);
        checkArgument(kind, 0, Filters.KINDS_OF_JOIN - 1);
        checkRoomForFilter();
        return filters.append(Filters.KINDS_OF_TEST + kind, first, second);
    }

    /**
     * Tells what a filter is for an entry: 1 if it is true, 0 if it is false, NONE if it is
     * unknown.
     *
     * @throws IndexOutOfBoundsException if there is no such master, filter, or entry in its tree
     */
    public int holds(int master, int filter, int entry) throws IndexOutOfBoundsException {
        Tree tree = treeOf(master);
        checkIndex(filter, filters.count);
        checkEntry(tree, entry);
        return filters.truthFor(filter, tree, entry);
    }

    /**
     * Searches; returns the entry that is found at a place, NONE if not so much is found.
     *
     * @throws IndexOutOfBoundsException if there is no such master, user, entry in its tree, or
     *     filter, or place is below 0
     * @throws IllegalArgumentException if there is no such scope
     */
    public int search(int master, int user, int base, int scope, int filter, int place)
            throws IndexOutOfBoundsException, IllegalArgumentException {
        Tree tree = treeOf(master);
        checkIndex(user, USERS);
        checkEntry(tree, base);
        checkIndex(filter, filters.count);
        if (place < 0) {
            throw new IndexOutOfBoundsException("place is below 0");
        }
        checkArgument(scope, BASE, ALL);
        int found = 0;
        int entry = scope == ONE ? tree.childAfter(base, NONE, marks) : base;
        for (int steps = 0; steps < MOST_ENTRIES && entry != NONE; steps++) {
            if (isFound(tree, user, filter, entry)) {
                if (found == place) {
                    return entry;
                }
                found++;
            }
            entry = nextInScope(tree, base, scope, entry);
        }
        return NONE;
    }

    private boolean isFound(Tree tree, int user, int filter, int entry) {
        return filters.truthFor(filter, tree, entry) == TRUE
                && marks.rightThatCounts(user, tree, entry) == ALLOW;
    }

    private int nextInScope(Tree tree, int base, int scope, int entry) {
        switch (scope) {
            case ONE:
                return tree.childAfter(base, tree.orderUnderParent(entry), marks);
            case ALL:
                return tree.entryAfter(entry, base, marks);
            default:
                return NONE;
        }
    }

    // ---- what the calls have to look at first

    private Tree treeOf(int master) {
        checkIndex(master, MASTERS);
        return master == 0 ? firstTree : secondTree;
    }

    private static void checkIndex(int index, int count) {
        if (index < 0 || index >= count) {
            throw new IndexOutOfBoundsException("there is none of this number");
        }
    }

    private static void checkEntry(Tree tree, int entry) {
        if (!tree.has(entry)) {
            throw new IndexOutOfBoundsException("there is no such entry in the tree");
        }
    }

    private static void checkArgument(int argument, int least, int greatest) {
        if (argument < least || argument > greatest) {
            throw new IllegalArgumentException("an argument is out of range");
        }
    }

    private void checkRoomForChange() {
        if (log.count >= MOST_CHANGES) {
            throw new IllegalStateException("there are 40 changes");
        }
    }

    private void checkRoomForFilter() {
        if (filters.count >= MOST_FILTERS) {
            throw new IllegalStateException("there are 20 filters");
        }
    }

    private static void checkIsNotFixed(int entry) {
        if (entry == ROOT || entry == LOST) {
            throw new IllegalStateException("the root and the lost one stay");
        }
    }

    private static void checkLabelIsFree(Tree tree, int parent, int label, int butOf) {
        if (tree.childWithLabelLike(parent, label, butOf) != NONE) {
            throw new IllegalStateException("a label like it is there under the parent");
        }
    }

    // ---- rows that are read and written only inside their bounds

    private static int at(int[] row, int index) {
        return index >= 0 && index < row.length ? row[index] : NONE;
    }

    private static void put(int[] row, int index, int content) {
        if (index >= 0 && index < row.length) {
            row[index] = content;
        }
    }

    /** The classes: what each one needs and allows, as bits. */
    private static final class Classes {
        private final int[] needed = new int[CLASSES];
        private final int[] allowed = new int[CLASSES];

        Classes() {
            Arrays.fill(allowed, ALL_ATTRIBUTES);
        }

        void define(int its, int needs, int allows) {
            put(needed, its, needs);
            put(allowed, its, allows | needs);
        }

        boolean needs(int its, int attribute) {
            return its >= 0 && its < CLASSES && hasBit(needed[its], attribute);
        }

        boolean allows(int its, int attribute) {
            return its >= 0 && its < CLASSES && hasBit(allowed[its], attribute);
        }

        private static boolean hasBit(int bits, int attribute) {
            return (bits >> attribute & 1) == 1;
        }
    }

    /** All changes by their numbers, whoever knows them. */
    private static final class Log {
        private final int[] kinds = new int[MOST_CHANGES];
        private final int[] stamps = new int[MOST_CHANGES];
        private final int[] entries = new int[MOST_CHANGES];
        /** The parent of an adding or moving, the attribute of a setting. */
        private final int[] targets = new int[MOST_CHANGES];
        /** The label of an adding or moving, the value of a setting. */
        private final int[] contents = new int[MOST_CHANGES];
        private final int[] classesOfAdded = new int[MOST_CHANGES];
        private int count;

        int append(int kind, int stamp, int entry, int target, int content, int its) {
            int change = count;
            put(kinds, change, kind);
            put(stamps, change, stamp);
            put(entries, change, entry);
            put(targets, change, target);
            put(contents, change, content);
            put(classesOfAdded, change, its);
            count++;
            return change;
        }

        /** One number for time and master, as stamps are compared by the time, then the master. */
        static int stampFrom(int time, int master) {
            return time * MASTERS + master;
        }

        int stampAt(int change) {
            return at(stamps, change);
        }

        int timeAt(int change) {
            return at(stamps, change) / MASTERS;
        }
    }

    /** The tree of a master, and the changes that the master knows. */
    private static final class Tree {
        private final int master;
        private final Log log;
        private final Classes classes;
        private final int[] known = new int[MOST_CHANGES];
        private int knownCount;
        private final boolean[] there = new boolean[MOST_ENTRIES];
        private final int[] parents = new int[MOST_ENTRIES];
        private final int[] labels = new int[MOST_ENTRIES];
        private final int[] classesOfEntries = new int[MOST_ENTRIES];
        private final int[] values = new int[MOST_ENTRIES * ATTRIBUTES];
        private int size;

        Tree(int master, Log log, Classes classes) {
            this.master = master;
            this.log = log;
            this.classes = classes;
            clear();
        }

        private void clear() {
            for (int entry = 0; entry < MOST_ENTRIES; entry++) {
                there[entry] = entry < ENTRIES_AT_FIRST;
            }
            Arrays.fill(parents, NONE);
            Arrays.fill(labels, NONE);
            Arrays.fill(classesOfEntries, 0);
            Arrays.fill(values, NONE);
            parents[LOST] = ROOT;
            labels[LOST] = LABEL_OF_LOST;
            size = ENTRIES_AT_FIRST;
        }

        // -- changes

        boolean knows(int change) {
            for (int place = 0; place < knownCount && place < MOST_CHANGES; place++) {
                if (known[place] == change) {
                    return true;
                }
            }
            return false;
        }

        int stampOfNext() {
            int greatestTime = knownCount == 0 ? 0 : log.timeAt(at(known, knownCount - 1));
            return Log.stampFrom(greatestTime + 1, master);
        }

        /** Takes up a change; only one with a stamp behind all others can be done at once. */
        void learn(int change) {
            if (knownCount >= MOST_CHANGES) {
                return;
            }
            int place = putInOrder(change);
            if (place < knownCount - 1) {
                clear();
                place = 0;
            }
            for (; place < knownCount && place < MOST_CHANGES; place++) {
                perform(known[place]);
            }
        }

        private int putInOrder(int change) {
            int place = knownCount;
            while (place > 0 && log.stampAt(at(known, place - 1)) > log.stampAt(change)) {
                put(known, place, at(known, place - 1));
                place--;
            }
            put(known, place, change);
            knownCount++;
            return place;
        }

        private void perform(int change) {
            int entry = at(log.entries, change);
            int target = at(log.targets, change);
            int content = at(log.contents, change);
            switch (at(log.kinds, change)) {
                case ADDING:
                    performAdding(entry, target, content, at(log.classesOfAdded, change));
                    break;
                case SETTING:
                    performSetting(entry, target, content);
                    break;
                case MOVING:
                    performMoving(entry, target, content);
                    break;
                case DELETING:
                    performDeleting(entry);
                    break;
                default:
                    break;
            }
        }

        private void performAdding(int entry, int parent, int label, int its) {
            if (entry < 0 || entry >= MOST_ENTRIES) {
                return;
            }
            there[entry] = true;
            labels[entry] = label;
            classesOfEntries[entry] = its;
            size++;
            settle(entry, parent);
        }

        private void performSetting(int entry, int attribute, int content) {
            if (has(entry) && mayHold(entry, attribute)) {
                put(values, entry * ATTRIBUTES + attribute, content);
            }
        }

        private void performMoving(int entry, int parent, int label) {
            if (has(entry) && !isAtOrBelow(parent, entry)) {
                labels[entry] = label;
                settle(entry, parent);
            }
        }

        private void performDeleting(int entry) {
            if (!has(entry)) {
                return;
            }
            there[entry] = false;
            parents[entry] = NONE;
            size--;
            for (int child = 0; child < MOST_ENTRIES; child++) {
                if (parents[child] == entry) {
                    settle(child, LOST);
                }
            }
        }

        /** Gives an entry its parent, and takes its label if one like it is there already. */
        private void settle(int entry, int parent) {
            if (!has(entry)) {
                return;
            }
            int home = has(parent) ? parent : LOST;
            if (childWithLabelLike(home, labels[entry], entry) != NONE) {
                labels[entry] = NONE;
            }
            parents[entry] = home;
        }

        // -- entries

        boolean has(int entry) {
            return entry >= 0 && entry < MOST_ENTRIES && there[entry];
        }

        int parentAt(int entry) {
            return at(parents, entry);
        }

        int labelAt(int entry) {
            return at(labels, entry);
        }

        int valueAt(int entry, int attribute) {
            return at(values, entry * ATTRIBUTES + attribute);
        }

        boolean mayHold(int entry, int attribute) {
            return classes.allows(at(classesOfEntries, entry), attribute);
        }

        boolean hasAllNeeded(int entry) {
            int its = at(classesOfEntries, entry);
            for (int attribute = 0; attribute < ATTRIBUTES; attribute++) {
                if (classes.needs(its, attribute) && valueAt(entry, attribute) == NONE) {
                    return false;
                }
            }
            return true;
        }

        boolean isAtOrBelow(int entry, int top) {
            int above = entry;
            for (int steps = 0; steps < MOST_ENTRIES && above != NONE; steps++) {
                if (above == top) {
                    return true;
                }
                above = parentAt(above);
            }
            return false;
        }

        boolean hasChild(int parent) {
            for (int entry = 0; entry < MOST_ENTRIES; entry++) {
                if (parents[entry] == parent) {
                    return true;
                }
            }
            return false;
        }

        int childWithLabelLike(int parent, int label, int butNot) {
            for (int entry = 0; entry < MOST_ENTRIES; entry++) {
                if (parents[entry] == parent && entry != butNot && areLike(labels[entry], label)) {
                    return entry;
                }
            }
            return NONE;
        }

        private static boolean areLike(int label, int other) {
            return label != NONE
                    && other != NONE
                    && label % REST_OF_LIKE_LABELS == other % REST_OF_LIKE_LABELS;
        }

        boolean isSameAs(Tree other) {
            for (int entry = 0; entry < MOST_ENTRIES; entry++) {
                if (there[entry] != other.there[entry]) {
                    return false;
                }
                if (there[entry] && !hasSameEntry(other, entry)) {
                    return false;
                }
            }
            return true;
        }

        private boolean hasSameEntry(Tree other, int entry) {
            for (int attribute = 0; attribute < ATTRIBUTES; attribute++) {
                if (valueAt(entry, attribute) != other.valueAt(entry, attribute)) {
                    return false;
                }
            }
            return parentAt(entry) == other.parentAt(entry)
                    && labelAt(entry) == other.labelAt(entry)
                    && at(classesOfEntries, entry) == at(other.classesOfEntries, entry);
        }

        // -- the order of a search

        /** Labels ahead of all NONE; two entries under the same parent never share an order. */
        int orderUnderParent(int entry) {
            int label = labelAt(entry);
            return label != NONE ? label : LABELS + entry;
        }

        /** The first child behind an order (NONE is ahead of all) that is no referral. */
        int childAfter(int parent, int order, Marks marks) {
            int best = NONE;
            for (int entry = 0; entry < MOST_ENTRIES; entry++) {
                if (parents[entry] == parent
                        && !marks.isReferral(entry)
                        && orderUnderParent(entry) > order
                        && (best == NONE || orderUnderParent(entry) < orderUnderParent(best))) {
                    best = entry;
                }
            }
            return best;
        }

        /** The entry that is gone to behind another one at or below a base. */
        int entryAfter(int entry, int base, Marks marks) {
            int child = childAfter(entry, NONE, marks);
            if (child != NONE) {
                return child;
            }
            int from = entry;
            for (int steps = 0; steps < MOST_ENTRIES && from != base && from != NONE; steps++) {
                int sibling = childAfter(parentAt(from), orderUnderParent(from), marks);
                if (sibling != NONE) {
                    return sibling;
                }
                from = parentAt(from);
            }
            return NONE;
        }
    }

    /** What belongs to numbers of entries, whether or not they are there: rights and referrals. */
    private static final class Marks {
        private final int[] rights = new int[USERS * MOST_ENTRIES];
        private final boolean[] referrals = new boolean[MOST_ENTRIES];

        Marks() {
            Arrays.fill(rights, NONE);
        }

        void putRight(int user, int entry, int right) {
            put(rights, user * MOST_ENTRIES + entry, right);
        }

        void putReferral(int entry, boolean isOne) {
            if (entry >= 0 && entry < MOST_ENTRIES) {
                referrals[entry] = isOne;
            }
        }

        boolean isReferral(int entry) {
            return entry >= 0 && entry < MOST_ENTRIES && referrals[entry];
        }

        int rightThatCounts(int user, Tree tree, int entry) {
            int above = entry;
            for (int steps = 0; steps < MOST_ENTRIES && above != NONE; steps++) {
                int right = at(rights, user * MOST_ENTRIES + above);
                if (right != NONE) {
                    return right;
                }
                above = tree.parentAt(above);
            }
            return ALLOW;
        }
    }

    /** The filters: tests of attributes, and joins of filters that were made ahead of them. */
    private static final class Filters {
        private static final int PRESENT = 0;
        private static final int EQUAL = 1;
        private static final int AT_LEAST = 2;
        private static final int KINDS_OF_TEST = 3;
        private static final int BOTH = 3;
        private static final int EITHER = 4;
        private static final int NOT = 5;
        private static final int KINDS_OF_JOIN = 3;

        private final int[] kinds = new int[MOST_FILTERS];
        /** The attribute of a test, the first filter of a join. */
        private final int[] firsts = new int[MOST_FILTERS];
        /** The value of a test, the second filter of a join. */
        private final int[] seconds = new int[MOST_FILTERS];
        private final int[] truths = new int[MOST_FILTERS];
        private int count;

        int append(int kind, int first, int second) {
            int filter = count;
            put(kinds, filter, kind);
            put(firsts, filter, first);
            put(seconds, filter, second);
            count++;
            return filter;
        }

        /**
         * Goes through the filters by their numbers, as joins hold only lower ones: so each is
         * looked at once, where a descent would look at a filter that is joined with itself twice.
         */
        int truthFor(int filter, Tree tree, int entry) {
            for (int each = 0; each <= filter && each < MOST_FILTERS; each++) {
                int kind = kinds[each];
                int first = firsts[each];
                int second = seconds[each];
                truths[each] = kind < KINDS_OF_TEST
                        ? truthOfTest(kind, first, second, tree, entry)
                        : truthOfJoin(kind, at(truths, first), at(truths, second));
            }
            return at(truths, filter);
        }

        private static int truthOfTest(int kind, int attribute, int wanted, Tree tree, int entry) {
            if (!tree.mayHold(entry, attribute)) {
                return UNKNOWN;
            }
            int content = tree.valueAt(entry, attribute);
            if (content == NONE) {
                return FALSE;
            }
            switch (kind) {
                case PRESENT:
                    return TRUE;
                case EQUAL:
                    return content == wanted ? TRUE : FALSE;
                case AT_LEAST:
                    return content >= wanted ? TRUE : FALSE;
                default:
                    return UNKNOWN;
            }
        }

        private static int truthOfJoin(int kind, int first, int second) {
            switch (kind) {
                case BOTH:
                    return both(first, second);
                case EITHER:
                    return opposite(both(opposite(first), opposite(second)));
                case NOT:
                    return opposite(first);
                default:
                    return UNKNOWN;
            }
        }

        private static int both(int first, int second) {
            if (first == FALSE || second == FALSE) {
                return FALSE;
            }
            return first == UNKNOWN || second == UNKNOWN ? UNKNOWN : TRUE;
        }

        private static int opposite(int truth) {
            return truth == UNKNOWN ? UNKNOWN : TRUE - truth;
        }
    }
}
