/** For each promise of the document: ordinary inputs, the edges that it names, wrong inputs. */
public final class PromiseTest {
    private static final int NONE = EntryMasters.NONE;
    private static final int ALLOW = EntryMasters.ALLOW, DENY = EntryMasters.DENY;
    private static final int BASE = EntryMasters.BASE;
    private static final int ONE = EntryMasters.ONE;
    private static final int ALL = EntryMasters.ALL;
    private static final int LEAST = Integer.MIN_VALUE, GREATEST = Integer.MAX_VALUE;
    private static final int[] BAD_MASTERS = {-1, 2, LEAST, GREATEST};
    private static final int[] BAD_LABELS = {-1, 100, LEAST, GREATEST};

    public static void main(String[] args) {
        newObject();
        setClass();
        add();
        addAfterCarrying();
        set();
        setAfterCarrying();
        move();
        moveAfterCarrying();
        delete();
        deleteAfterCarrying();
        fortyChanges();
        carry();
        stampsDecide();
        changesAndTimes();
        entriesAndIsThere();
        parentsAndLabels();
        value();
        isWhole();
        find();
        areAlike();
        setRight();
        deepRights();
        refer();
        test();
        join();
        twentyFilters();
        holds();
        search();
        searchOrder();
        searchThrows();
        throwsChangeNothing();
        Check.finish("PromiseTest");
    }

    private static void newObject() {
        Check.part("promise 1");
        EntryMasters x = new EntryMasters();
        Check.due("changes", x.changes(), 0);
        String first = "2 of 0 [0 under -1 as -1: -1 -1 -1 -1] [1 under 0 as 99: -1 -1 -1 -1]";
        Check.due("first tree", Ask.tree(x, 0), first);
        Check.due("second tree", Ask.tree(x, 1), first);
        Check.due("areAlike", x.areAlike(), true);
        Check.index("no change to carry", () -> x.carry(0, 0));
        Check.index("no time", () -> x.timeOf(0));
        Check.index("no filter", () -> x.holds(0, 0, 0));
        Check.due("needs nothing", x.isWhole(0, 0), true);
        for (int its = 0; its < 3; its++) {
            int entry = x.add(0, 0, its, its);
            Check.due("needs nothing " + its, x.isWhole(0, entry), true);
            for (int a = 0; a < 4; a++) {
                Check.due("allows " + its + " " + a, x.set(0, entry, a, a), NONE);
            }
        }
        int anything = Ask.anything(x);
        for (int user = 0; user < 3; user++) {
            Check.due("allowed " + user, Ask.found(x, 0, user, 0, ALL, anything), "0 2 7 12 1");
        }
        EntryMasters other = new EntryMasters();
        Check.due("objects share nothing", other.changes(), 0);
        Check.due("objects share no tree", other.entries(0), 2);
    }

    private static void setClass() {
        Check.part("promise 2");
        EntryMasters x = new EntryMasters();
        for (int bad : new int[] {-1, 3, LEAST, GREATEST}) {
            Check.index("class " + bad, () -> x.setClass(bad, 0, 0));
            Check.index("class first " + bad, () -> x.setClass(bad, 16, -1));
        }
        for (int bad : new int[] {-1, 16, LEAST, GREATEST}) {
            Check.argument("needed " + bad, () -> x.setClass(0, bad, 0));
            Check.argument("allowed " + bad, () -> x.setClass(0, 0, bad));
        }
        x.setClass(0, 0, 0);
        x.setClass(1, 1, 2);
        x.setClass(2, 15, 15);
        x.setClass(2, 8, 0);
        int one = x.add(0, 0, 1, 1);
        int two = x.add(0, 0, 2, 2);
        Check.state("a change was made", () -> x.setClass(1, 0, 0));
        Check.state("also for the other master's", () -> x.setClass(0, 15, 15));
        Check.index("class ahead of the change", () -> x.setClass(3, 0, 0));
        Check.argument("set ahead of the change", () -> x.setClass(0, 16, 0));
        Check.argument("allowed ahead of the change", () -> x.setClass(0, 0, 16));
        for (int a = 0; a < 4; a++) {
            int at = a;
            Check.state("root's class allows nothing", () -> x.set(0, 0, at, 1));
            Check.state("lost one's class allows nothing", () -> x.set(0, 1, at, 1));
            due(x, one, at, a < 2);
            due(x, two, at, a == 3);
        }
        Check.due("needed is added", x.value(0, one, 0), 5);
    }

    private static void due(EntryMasters x, int entry, int attribute, boolean isAllowed) {
        String want = isAllowed ? "nothing thrown" : "IllegalStateException";
        String got = Check.outcome(() -> x.set(0, entry, attribute, 5));
        Check.due("set " + entry + " " + attribute, got, want);
    }

    private static void add() {
        Check.part("promise 3");
        EntryMasters x = new EntryMasters();
        Check.due("first", x.add(0, 0, 0, 0), 2);
        Check.due("second", x.add(0, 2, 99, 2), 3);
        Check.due("at the other master", x.add(1, 0, 98, 1), 4);
        Check.due("under the lost one", x.add(1, 1, 49, 1), 5);
        Check.due("set is a change too", x.set(0, 2, 0, 1), NONE);
        Check.due("number of the change plus 2", x.add(0, 3, 0, 0), 7);
        Check.due("first tree", Ask.tree(x, 0), "5 of 6 [0 under -1 as -1: -1 -1 -1 -1]"
                + " [1 under 0 as 99: -1 -1 -1 -1] [2 under 0 as 0: 1 -1 -1 -1]"
                + " [3 under 2 as 99: -1 -1 -1 -1] [7 under 3 as 0: -1 -1 -1 -1]");
        for (int bad : BAD_MASTERS) {
            Check.index("master " + bad, () -> x.add(bad, 0, 1, 0));
        }
        for (int bad : new int[] {-1, 4, 5, 6, 8, 41, 42, LEAST, GREATEST}) {
            Check.index("parent " + bad, () -> x.add(0, bad, 1, 0));
        }
        for (int bad : new int[] {-1, 3, LEAST, GREATEST}) {
            Check.index("class " + bad, () -> x.add(0, 0, 1, bad));
            Check.index("class ahead of label " + bad, () -> x.add(0, 0, 100, bad));
        }
        for (int bad : BAD_LABELS) {
            Check.argument("label " + bad, () -> x.add(0, 0, bad, 0));
        }
        Check.state("same label", () -> x.add(0, 0, 0, 0));
        Check.state("label like it", () -> x.add(0, 0, 50, 0));
        Check.state("label like the lost one's", () -> x.add(0, 0, 49, 0));
        Check.state("label like it below", () -> x.add(0, 2, 49, 0));
        Check.nothing("another rest", () -> x.add(0, 0, 48, 0));
        Check.nothing("under another parent", () -> x.add(0, 1, 50, 0));
    }

    private static void addAfterCarrying() {
        Check.part("promise 3, carried");
        EntryMasters x = new EntryMasters();
        int home = x.add(0, 0, 1, 0);
        int child = x.add(0, home, 2, 0);
        int twin = x.add(0, home, 3, 0);
        x.add(1, 1, 52, 0);
        x.carry(1, 1);
        Check.due("under the lost one", x.parentOf(1, child), 1);
        Check.due("clashes there", x.labelOf(1, child), NONE);
        x.carry(2, 1);
        Check.due("twin under the lost one", x.parentOf(1, twin), 1);
        Check.due("twin clashes with nothing", x.labelOf(1, twin), 3);
        x.carry(0, 1);
        Check.due("under its parent again", x.parentOf(1, child), home);
        Check.due("its label again", x.labelOf(1, child), 2);
        Check.due("class stays", x.labelOf(1, home), 1);
    }

    private static void set() {
        Check.part("promise 4");
        EntryMasters x = new EntryMasters();
        x.setClass(1, 0, 5);
        int entry = x.add(0, 0, 0, 1);
        Check.due("none before", x.set(0, entry, 0, 9), NONE);
        Check.due("9 before", x.set(0, entry, 0, 0), 9);
        Check.due("0 before", x.set(0, entry, 0, NONE), 0);
        Check.due("none again", x.set(0, entry, 0, NONE), NONE);
        Check.due("another attribute", x.set(0, entry, 2, 4), NONE);
        Check.due("root", x.set(0, 0, 3, 7), NONE);
        Check.due("root's value", x.value(0, 0, 3), 7);
        Check.due("lost one", x.set(0, 1, 0, 3), NONE);
        Check.due("the same is a change too", x.set(0, 1, 0, 3), 3);
        Check.due("changes", x.changes(), 9);
        for (int bad : BAD_MASTERS) {
            Check.index("master " + bad, () -> x.set(bad, 0, 0, 0));
        }
        for (int bad : new int[] {-1, 3, 42, LEAST, GREATEST}) {
            Check.index("entry " + bad, () -> x.set(0, bad, 0, 0));
        }
        Check.index("entry of the other tree", () -> x.set(1, entry, 0, 0));
        for (int bad : new int[] {-1, 4, LEAST, GREATEST}) {
            Check.index("attribute " + bad, () -> x.set(0, 0, bad, 0));
            Check.index("attribute ahead of value " + bad, () -> x.set(0, entry, bad, 10));
        }
        for (int bad : new int[] {-2, 10, LEAST, GREATEST}) {
            Check.argument("value " + bad, () -> x.set(0, 0, 0, bad));
            Check.argument("value ahead of class " + bad, () -> x.set(0, entry, 1, bad));
        }
        Check.state("not allowed", () -> x.set(0, entry, 1, 0));
        Check.state("not allowed, none", () -> x.set(0, entry, 3, NONE));
        Check.due("no change", x.changes(), 9);
    }

    private static void setAfterCarrying() {
        Check.part("promise 4, carried");
        EntryMasters x = new EntryMasters();
        int entry = x.add(0, 0, 0, 0);
        x.carry(0, 1);
        x.set(0, entry, 1, 3);
        x.set(1, entry, 1, 4);
        Check.due("same times", x.timeOf(1), x.timeOf(2));
        x.carry(1, 1);
        x.carry(2, 0);
        Check.due("the greater master stays", x.value(0, entry, 1), 4);
        Check.due("at both", x.value(1, entry, 1), 4);
        x.set(0, entry, 1, 5);
        x.set(1, entry, 1, 6);
        x.set(0, entry, 1, 7);
        x.carry(4, 0);
        Check.due("the greater time stays", x.value(0, entry, 1), 7);
        EntryMasters y = new EntryMasters();
        int gone = y.add(0, 0, 0, 0);
        y.set(0, gone, 0, 1);
        y.carry(1, 1);
        Check.due("not there, so nothing", Ask.tree(y, 1), Ask.tree(new EntryMasters(), 1).replace("of 0", "of 2"));
        y.carry(0, 1);
        Check.due("there then", y.value(1, gone, 0), 1);
    }

    private static void move() {
        Check.part("promise 5");
        EntryMasters x = new EntryMasters();
        int a = x.add(0, 0, 1, 0);
        int b = x.add(0, a, 2, 0);
        int c = x.add(0, b, 3, 0);
        int d = x.add(0, 0, 4, 0);
        x.set(0, c, 2, 8);
        Check.due("parent before", x.move(0, b, d, 99), a);
        Check.due("new parent", x.parentOf(0, b), d);
        Check.due("new label", x.labelOf(0, b), 99);
        Check.due("what is below goes along", x.parentOf(0, c), b);
        Check.due("its values stay", x.value(0, c, 2), 8);
        Check.due("rename to a label like its own", x.move(0, b, d, 49), d);
        Check.due("renamed", x.labelOf(0, b), 49);
        Check.due("under the lost one", x.move(0, a, 1, 0), 0);
        Check.due("from the lost one", x.move(0, a, 0, 0), 1);
        for (int bad : BAD_MASTERS) {
            Check.index("master " + bad, () -> x.move(bad, 0, 0, 0));
        }
        for (int bad : new int[] {-1, 6, 7, 42, LEAST, GREATEST}) {
            Check.index("entry " + bad, () -> x.move(0, bad, 0, 0));
            Check.index("parent " + bad, () -> x.move(0, a, bad, 100));
            Check.index("parent of the root " + bad, () -> x.move(0, 0, bad, 0));
        }
        Check.index("entry of the other tree", () -> x.move(1, a, 0, 0));
        for (int bad : BAD_LABELS) {
            Check.argument("label " + bad, () -> x.move(0, a, d, bad));
            Check.argument("label ahead of the root " + bad, () -> x.move(0, 0, d, bad));
        }
        Check.state("root", () -> x.move(0, 0, a, 7));
        Check.state("lost one", () -> x.move(0, 1, a, 7));
        Check.state("lost one where it is", () -> x.move(0, 1, 0, 99));
        Check.state("under itself", () -> x.move(0, d, d, 7));
        Check.state("under its child", () -> x.move(0, d, b, 7));
        Check.state("under what is far below", () -> x.move(0, d, c, 7));
        Check.state("a label like it", () -> x.move(0, c, 0, 54));
        Check.state("a label like the lost one's", () -> x.move(0, c, 0, 49));
        Check.due("no change by these", x.changes(), 9);
        Check.nothing("up by two", () -> x.move(0, c, 0, 53));
    }

    private static void moveAfterCarrying() {
        Check.part("promise 5, carried");
        EntryMasters x = new EntryMasters();
        int a = x.add(0, 0, 1, 0);
        int b = x.add(0, 0, 2, 0);
        x.carry(0, 1);
        x.carry(1, 1);
        x.move(0, a, b, 3);
        x.move(1, b, a, 4);
        x.carry(2, 1);
        x.carry(3, 0);
        Check.due("the later move would close a ring", x.parentOf(0, b), 0);
        Check.due("so its label stays too", x.labelOf(0, b), 2);
        Check.due("the earlier one is done", x.parentOf(1, a), b);
        Check.due("alike", x.areAlike(), true);

        EntryMasters y = new EntryMasters();
        int home = y.add(0, 0, 1, 0);
        int entry = y.add(0, 0, 2, 0);
        y.add(1, 1, 55, 0);
        y.add(1, 0, 59, 0);
        y.carry(1, 1);
        y.move(0, entry, home, 9);
        y.carry(3, 0);
        y.carry(4, 1);
        Check.due("the parent is not there", y.parentOf(1, entry), 1);
        Check.due("the label is new all the same", y.labelOf(1, entry), 9);
        y.move(0, entry, home, 5);
        y.carry(5, 1);
        Check.due("under the lost one still", y.parentOf(1, entry), 1);
        Check.due("a label like it is there", y.labelOf(1, entry), NONE);
        y.carry(0, 1);
        Check.due("the parent has come", y.parentOf(1, entry), home);
        Check.due("and the label", y.labelOf(1, entry), 5);

        EntryMasters z = new EntryMasters();
        int moved = z.add(0, 0, 1, 0);
        z.move(0, moved, 1, 2);
        z.carry(1, 1);
        Check.due("what is not there is not moved", z.isThere(1, moved), false);
    }

    private static void delete() {
        Check.part("promise 6");
        EntryMasters x = new EntryMasters();
        int a = x.add(0, 0, 1, 0);
        int b = x.add(0, a, 1, 0);
        Check.state("one below it", () -> x.delete(0, a));
        Check.due("entries then", x.delete(0, b), 3);
        Check.due("is not there", x.isThere(0, b), false);
        Check.index("deleted twice", () -> x.delete(0, b));
        Check.index("no parent any more", () -> x.add(0, b, 1, 0));
        Check.due("the label is free", x.add(0, a, 51, 0), 5);
        for (int bad : BAD_MASTERS) {
            Check.index("master " + bad, () -> x.delete(bad, a));
        }
        for (int bad : new int[] {-1, 4, 42, LEAST, GREATEST}) {
            Check.index("entry " + bad, () -> x.delete(0, bad));
        }
        Check.index("entry of the other tree", () -> x.delete(1, a));
        Check.state("root", () -> x.delete(0, 0));
        Check.state("lost one", () -> x.delete(0, 1));
        Check.due("from below", x.delete(0, 5), 3);
        Check.due("to the first two", x.delete(0, a), 2);
        Check.state("lost one, nothing below", () -> x.delete(0, 1));
        Check.due("changes", x.changes(), 6);
    }

    private static void deleteAfterCarrying() {
        Check.part("promise 6, carried");
        EntryMasters x = new EntryMasters();
        int home = x.add(0, 0, 1, 0);
        x.carry(0, 1);
        int low = x.add(1, home, 7, 0);
        int high = x.add(1, home, 8, 0);
        int below = x.add(1, low, 7, 0);
        x.set(1, low, 0, 3);
        x.add(0, 1, 57, 0);
        x.add(0, 1, 20, 0);
        x.set(0, 0, 0, 0);
        x.set(0, 0, 0, 1);
        Check.due("nothing below it here", x.delete(0, home), 4);
        for (int change = 1; change < 5; change++) {
            x.carry(change, 0);
        }
        Check.due("child under the lost one", x.parentOf(0, low), 1);
        Check.due("its label clashes there", x.labelOf(0, low), NONE);
        Check.due("its value stays", x.value(0, low, 0), 3);
        Check.due("the other child", x.parentOf(0, high), 1);
        Check.due("its label does not", x.labelOf(0, high), 8);
        Check.due("what is further below stays", x.parentOf(0, below), low);
        Check.due("and its label", x.labelOf(0, below), 7);
        Check.due("entries", x.entries(0), 7);

        EntryMasters y = new EntryMasters();
        int first = y.add(0, 0, 1, 0);
        int second = y.add(0, 0, 2, 0);
        int older = y.add(0, second, 53, 0);
        int newer = y.add(0, first, 3, 0);
        int none = y.add(0, second, 4, 0);
        y.move(0, newer, second, 5);
        for (int change = 0; change < 6; change++) {
            y.carry(change, 1);
        }
        y.delete(0, none);
        y.delete(0, older);
        y.delete(0, newer);
        y.delete(0, second);
        y.move(1, newer, first, 53);
        y.carry(9, 1);
        Check.due("moved away in time", y.parentOf(1, newer), first);
        Check.due("not in time", y.parentOf(1, older), 1);
        Check.due("by rising numbers", y.labelOf(1, older), 53);
        y.carry(6, 1);
        y.carry(7, 1);
        y.carry(8, 1);
        y.carry(10, 0);
        Check.due("alike", y.areAlike(), true);
        Check.due("gone at both", y.entries(0), 3);

        EntryMasters z = new EntryMasters();
        int gone = z.add(0, 0, 1, 0);
        z.delete(0, gone);
        z.carry(1, 1);
        Check.due("nothing to delete yet", z.entries(1), 2);
        z.carry(0, 1);
        Check.due("deleted ahead of its adding", z.isThere(1, gone), false);
        Check.due("entries then", z.entries(1), 2);

        EntryMasters w = new EntryMasters();
        int parent = w.add(0, 0, 1, 0);
        w.carry(0, 1);
        int one = w.add(1, parent, 5, 0);
        w.move(1, one, parent, 6);
        int two = w.add(1, parent, 5, 0);
        w.move(1, one, 0, 6);
        w.move(1, two, parent, 56);
        w.move(1, one, 1, 6);
        w.set(0, 0, 0, 1);
        w.set(0, 0, 0, 2);
        w.set(0, 0, 0, 3);
        w.set(0, 0, 0, 4);
        w.set(0, 0, 0, 5);
        w.set(0, 0, 0, 6);
        w.delete(0, parent);
        w.carry(w.changes() - 1, 1);
        Check.due("clashes with the one that is there", w.labelOf(1, two), NONE);
        Check.due("which keeps its own", w.labelOf(1, one), 6);
    }

    private static void fortyChanges() {
        Check.part("promises 3 to 6, 40 changes");
        EntryMasters x = new EntryMasters();
        int a = x.add(0, 0, 1, 0);
        int b = x.add(0, a, 1, 0);
        for (int i = 2; i < 39; i++) {
            x.set(i % 2, i % 2, 0, 1);
        }
        Check.nothing("the 40th", () -> x.set(1, 0, 0, 1));
        Check.due("changes", x.changes(), 40);
        Check.state("add", () -> x.add(0, 0, 5, 0));
        Check.state("set", () -> x.set(0, 0, 0, 1));
        Check.state("move", () -> x.move(0, b, 0, 5));
        Check.state("delete", () -> x.delete(0, b));
        Check.index("add's index first", () -> x.add(0, 0, 5, 3));
        Check.argument("add's label first", () -> x.add(0, 0, 100, 0));
        Check.argument("set's value first", () -> x.set(0, 0, 0, 10));
        Check.argument("move's label first", () -> x.move(0, b, 0, -1));
        Check.index("delete's entry first", () -> x.delete(1, b));
        Check.due("still 40", x.changes(), 40);
        for (int change = 39; change >= 0; change--) {
            x.carry(change, 0);
            x.carry(change, 1);
        }
        Check.due("alike", x.areAlike(), true);
        Check.due("time of the last one", x.timeOf(39) > x.timeOf(37), true);
        Check.state("add after carrying", () -> x.add(1, 0, 5, 0));

        EntryMasters chain = new EntryMasters();
        int last = 0;
        for (int i = 0; i < 40; i++) {
            last = chain.add(1, last, 7, 0);
        }
        Check.due("the last entry", last, 41);
        Check.due("its parent", chain.parentOf(1, 41), 40);
        Check.due("all there", chain.entries(1), 42);
    }

    private static void carry() {
        Check.part("promise 7");
        EntryMasters x = new EntryMasters();
        x.add(0, 0, 1, 0);
        x.add(1, 0, 51, 0);
        Check.due("known where it was made", x.carry(0, 0), false);
        Check.due("known where it was made too", x.carry(1, 1), false);
        Check.due("new to the other", x.carry(0, 1), true);
        Check.due("known then", x.carry(0, 1), false);
        Check.due("the first of both keeps its label", x.labelOf(1, 2), 1);
        Check.due("the second has none", x.labelOf(1, 3), NONE);
        Check.due("not yet carried back", x.labelOf(0, 2), 1);
        Check.due("not there", x.isThere(0, 3), false);
        Check.due("carried back", x.carry(1, 0), true);
        Check.due("alike", x.areAlike(), true);
        Check.due("no change is made", x.changes(), 2);
        for (int bad : new int[] {-1, 2, 40, LEAST, GREATEST}) {
            Check.index("change " + bad, () -> x.carry(bad, 0));
        }
        for (int bad : BAD_MASTERS) {
            Check.index("master " + bad, () -> x.carry(0, bad));
        }
    }

    private static void stampsDecide() {
        Check.part("promise 7, stamps");
        EntryMasters x = new EntryMasters();
        int late = x.add(1, 0, 60, 0);
        int early = x.add(0, 0, 10, 0);
        Check.due("the same time", x.timeOf(0), x.timeOf(1));
        x.carry(0, 0);
        Check.due("master 0 is first, though made later", x.labelOf(0, early), 10);
        Check.due("master 1 clashes", x.labelOf(0, late), NONE);
        int next = x.add(0, 0, 11, 0);
        Check.due("time behind what was carried", x.timeOf(2), 2);
        x.carry(2, 1);
        int behind = x.add(1, 0, 12, 0);
        Check.due("1 more than the greatest known", x.timeOf(behind - 2), 3);
        x.carry(1, 1);
        Check.due("carrying an old one", x.timeOf(x.add(1, 0, 13, 0) - 2), 4);
        Check.due("times do not change", x.timeOf(next - 2), 2);
    }

    private static void changesAndTimes() {
        Check.part("promises 8 and 9");
        EntryMasters x = new EntryMasters();
        x.add(0, 0, 1, 0);
        Check.due("one", x.changes(), 1);
        x.set(0, 2, 0, 1);
        x.move(0, 2, 1, 1);
        x.delete(0, 2);
        Check.due("each is one", x.changes(), 4);
        for (int change = 0; change < 4; change++) {
            Check.due("time " + change, x.timeOf(change), change + 1);
        }
        x.set(1, 0, 0, 1);
        Check.due("the other master begins anew", x.timeOf(4), 1);
        x.carry(2, 1);
        x.set(1, 0, 0, 1);
        Check.due("the greatest that it knows", x.timeOf(5), 4);
        x.carry(4, 0);
        x.set(0, 0, 0, 1);
        Check.due("an older one changes nothing", x.timeOf(6), 5);
        Check.due("seven", x.changes(), 7);
        for (int bad : new int[] {-1, 7, 40, LEAST, GREATEST}) {
            Check.index("change " + bad, () -> x.timeOf(bad));
        }
    }

    private static void entriesAndIsThere() {
        Check.part("promises 10 and 11");
        EntryMasters x = new EntryMasters();
        int a = x.add(0, 0, 1, 0);
        x.set(0, a, 0, 1);
        int b = x.add(0, a, 1, 0);
        Check.due("first", x.entries(0), 4);
        Check.due("second", x.entries(1), 2);
        Check.due("added", x.isThere(0, a), true);
        Check.due("a change that adds nothing", x.isThere(0, a + 1), false);
        Check.due("added too", x.isThere(0, b), true);
        Check.due("not at the other", x.isThere(1, a), false);
        x.delete(0, b);
        Check.due("after deleting", x.entries(0), 3);
        for (int any : new int[] {-1, 5, 41, 42, 43, LEAST, GREATEST}) {
            Check.due("any number " + any, x.isThere(0, any), false);
        }
        for (int master = 0; master < 2; master++) {
            Check.due("root", x.isThere(master, 0), true);
            Check.due("lost one", x.isThere(master, 1), true);
        }
        for (int bad : BAD_MASTERS) {
            Check.index("entries " + bad, () -> x.entries(bad));
            Check.index("isThere " + bad, () -> x.isThere(bad, 0));
        }
    }

    private static void parentsAndLabels() {
        Check.part("promises 12 and 13");
        EntryMasters x = new EntryMasters();
        int a = x.add(0, 1, 98, 0);
        int b = x.add(0, a, 0, 0);
        Check.due("of a", x.parentOf(0, a), 1);
        Check.due("of b", x.parentOf(0, b), a);
        Check.due("label of a", x.labelOf(0, a), 98);
        Check.due("label of b", x.labelOf(0, b), 0);
        for (int master = 0; master < 2; master++) {
            Check.due("of the root", x.parentOf(master, 0), NONE);
            Check.due("of the lost one", x.parentOf(master, 1), 0);
            Check.due("label of the root", x.labelOf(master, 0), NONE);
            Check.due("label of the lost one", x.labelOf(master, 1), 99);
        }
        x.delete(0, b);
        for (int bad : BAD_MASTERS) {
            Check.index("parentOf " + bad, () -> x.parentOf(bad, 0));
            Check.index("labelOf " + bad, () -> x.labelOf(bad, 0));
        }
        for (int bad : new int[] {-1, b, 41, 42, LEAST, GREATEST}) {
            Check.index("parentOf entry " + bad, () -> x.parentOf(0, bad));
            Check.index("labelOf entry " + bad, () -> x.labelOf(0, bad));
        }
        Check.index("parentOf at the other", () -> x.parentOf(1, a));
        Check.index("labelOf at the other", () -> x.labelOf(1, a));
    }

    private static void value() {
        Check.part("promise 14");
        EntryMasters x = new EntryMasters();
        x.setClass(2, 0, 1);
        int a = x.add(0, 0, 1, 2);
        int b = x.add(0, 0, 2, 1);
        x.set(0, b, 3, 9);
        x.set(0, b, 0, 0);
        x.set(0, 0, 1, 5);
        Check.due("set", x.value(0, b, 3), 9);
        Check.due("set to 0", x.value(0, b, 0), 0);
        Check.due("not set", x.value(0, b, 1), NONE);
        Check.due("root's", x.value(0, 0, 1), 5);
        Check.due("lost one's", x.value(0, 1, 1), NONE);
        Check.due("at the other master", x.value(1, 0, 1), NONE);
        Check.due("not allowed", x.value(0, a, 3), NONE);
        Check.due("of another entry", x.value(0, a, 0), NONE);
        for (int bad : BAD_MASTERS) {
            Check.index("master " + bad, () -> x.value(bad, 0, 0));
        }
        for (int bad : new int[] {-1, 4, 42, LEAST, GREATEST}) {
            Check.index("entry " + bad, () -> x.value(0, bad, 0));
            Check.index("attribute " + bad, () -> x.value(0, 0, bad));
        }
        Check.index("entry of the other tree", () -> x.value(1, a, 0));
    }

    private static void isWhole() {
        Check.part("promise 15");
        EntryMasters x = new EntryMasters();
        x.setClass(0, 8, 0);
        x.setClass(1, 5, 2);
        int a = x.add(0, 0, 1, 1);
        int b = x.add(0, 0, 2, 2);
        Check.due("root needs one", x.isWhole(0, 0), false);
        Check.due("lost one needs one", x.isWhole(1, 1), false);
        Check.due("needs nothing", x.isWhole(0, b), true);
        x.set(0, 0, 3, 0);
        Check.due("root has it", x.isWhole(0, 0), true);
        Check.due("not at the other master", x.isWhole(1, 0), false);
        Check.due("needs two", x.isWhole(0, a), false);
        x.set(0, a, 1, 1);
        Check.due("another one does not count", x.isWhole(0, a), false);
        x.set(0, a, 0, 0);
        Check.due("has one of two", x.isWhole(0, a), false);
        x.set(0, a, 2, 9);
        Check.due("has both", x.isWhole(0, a), true);
        x.set(0, a, 0, NONE);
        Check.due("not any more", x.isWhole(0, a), false);
        for (int bad : BAD_MASTERS) {
            Check.index("master " + bad, () -> x.isWhole(bad, 0));
        }
        for (int bad : new int[] {-1, 4, 42, LEAST, GREATEST}) {
            Check.index("entry " + bad, () -> x.isWhole(0, bad));
        }
        Check.index("entry of the other tree", () -> x.isWhole(1, a));
    }

    private static void find() {
        Check.part("promise 16");
        EntryMasters x = new EntryMasters();
        int a = x.add(0, 0, 10, 0);
        int b = x.add(0, a, 60, 0);
        x.add(1, 1, 60, 0);
        x.carry(0, 1);
        x.carry(1, 1);
        Check.due("the same label", x.find(0, 0, 10), a);
        Check.due("one like it", x.find(0, 0, 60), a);
        Check.due("like it from below", x.find(0, a, 10), b);
        Check.due("lost one", x.find(0, 0, 49), 1);
        Check.due("lost one's own", x.find(1, 0, 99), 1);
        Check.due("none", x.find(0, 0, 11), NONE);
        Check.due("none below", x.find(0, b, 10), NONE);
        Check.due("far below does not count", x.find(0, 1, 10), NONE);
        for (int bad : BAD_MASTERS) {
            Check.index("master " + bad, () -> x.find(bad, 0, 0));
        }
        for (int bad : new int[] {-1, 5, 42, LEAST, GREATEST}) {
            Check.index("parent " + bad, () -> x.find(0, bad, 0));
            Check.index("parent ahead of label " + bad, () -> x.find(0, bad, 100));
        }
        for (int bad : BAD_LABELS) {
            Check.argument("label " + bad, () -> x.find(0, 0, bad));
        }
        EntryMasters y = new EntryMasters();
        y.add(0, 0, 0, 0);
        y.add(1, 0, 50, 0);
        y.carry(1, 0);
        Check.due("no label", y.labelOf(0, 3), NONE);
        Check.due("is found by none", y.find(0, 0, 50), 2);
        y.delete(0, 2);
        Check.due("not even alone", y.find(0, 0, 0), NONE);
        Check.due("nor as 49 or 99", y.find(0, 0, 99), 1);
    }

    private static void areAlike() {
        Check.part("promise 17");
        EntryMasters x = new EntryMasters();
        int a = x.add(0, 0, 1, 1);
        Check.due("another entry", x.areAlike(), false);
        x.carry(0, 1);
        Check.due("carried", x.areAlike(), true);
        x.set(0, a, 3, 0);
        Check.due("another value", x.areAlike(), false);
        x.set(1, a, 3, 0);
        Check.due("the same by another change", x.areAlike(), true);
        x.move(0, a, 0, 51);
        Check.due("another label", x.areAlike(), false);
        x.move(1, a, 0, 51);
        Check.due("the same label", x.areAlike(), true);
        x.move(1, a, 1, 51);
        Check.due("another parent", x.areAlike(), false);
        x.move(0, a, 1, 51);
        Check.due("the same parent", x.areAlike(), true);
        x.set(1, 1, 0, 4);
        Check.due("lost one's value", x.areAlike(), false);
        x.set(1, 1, 0, NONE);
        Check.due("none again", x.areAlike(), true);
        x.delete(1, a);
        Check.due("deleted at one", x.areAlike(), false);
        x.delete(0, a);
        Check.due("deleted at both", x.areAlike(), true);
        int b = x.add(0, 0, 1, 0);
        int c = x.add(1, 0, 1, 0);
        Check.due("the same but for the number", b != c && !x.areAlike(), true);
        EntryMasters y = new EntryMasters();
        y.add(1, 0, 1, 1);
        Check.due("another entry at the second", y.areAlike(), false);
        EntryMasters z = new EntryMasters();
        int late = z.add(1, 0, 60, 0);
        z.add(0, 0, 10, 0);
        z.carry(0, 0);
        z.delete(0, 3);
        Check.due("label NONE against 60", z.labelOf(0, late) == NONE && !z.areAlike(), true);
    }

    private static void setRight() {
        Check.part("promise 18");
        EntryMasters x = new EntryMasters();
        int a = x.add(0, 0, 1, 0);
        int b = x.add(0, a, 1, 0);
        int c = x.add(0, b, 1, 0);
        int anything = Ask.anything(x);
        x.setRight(0, a, DENY);
        Check.due("denied with all below", Ask.found(x, 0, 0, 0, ALL, anything), "0 1");
        Check.due("other users are not", Ask.found(x, 0, 1, 0, ALL, anything), "0 2 3 4 1");
        Check.due("nor the third", Ask.found(x, 0, 2, 0, ALL, anything), "0 2 3 4 1");
        x.setRight(0, b, ALLOW);
        Check.due("the nearest counts", Ask.found(x, 0, 0, 0, ALL, anything), "0 3 4 1");
        x.setRight(0, c, DENY);
        Check.due("its own is ahead", Ask.found(x, 0, 0, 0, ALL, anything), "0 3 1");
        x.setRight(0, c, NONE);
        Check.due("taken away", Ask.found(x, 0, 0, 0, ALL, anything), "0 3 4 1");
        x.setRight(2, 0, DENY);
        Check.due("root's for all", Ask.found(x, 0, 2, 0, ALL, anything), "");
        x.setRight(2, 1, ALLOW);
        Check.due("lost one allowed", Ask.found(x, 0, 2, 0, ALL, anything), "1");
        x.setRight(1, 5, DENY);
        int d = x.add(1, 0, 7, 0);
        Check.due("right ahead of the entry", Ask.found(x, 1, 1, 0, ALL, anything), "0 1");
        Check.due("both masters alike", x.carry(d - 2, 0), true);
        Check.due("at the first", Ask.found(x, 0, 1, 0, ALL, anything), "0 2 3 4 1");
        x.setRight(1, 5, ALLOW);
        Check.due("at the second again", Ask.found(x, 1, 1, 0, ALL, anything), "0 5 1");
        x.move(0, c, 0, 30);
        x.setRight(0, 0, DENY);
        Check.due("by the tree as it is", Ask.found(x, 0, 0, 0, ALL, anything), "3");
        for (int bad : new int[] {-1, 3, LEAST, GREATEST}) {
            Check.index("user " + bad, () -> x.setRight(bad, 0, 0));
        }
        for (int bad : new int[] {-1, 42, LEAST, GREATEST}) {
            Check.index("entry " + bad, () -> x.setRight(0, bad, 0));
            Check.index("entry ahead of right " + bad, () -> x.setRight(0, bad, 2));
        }
        for (int bad : new int[] {-2, 2, LEAST, GREATEST}) {
            Check.argument("right " + bad, () -> x.setRight(0, 0, bad));
        }
        Check.nothing("the last entry", () -> x.setRight(2, 41, DENY));
        Check.due("no change", x.changes(), 5);
        EntryMasters y = new EntryMasters();
        int every = Ask.anything(y);
        y.setRight(0, 41, DENY);
        y.setRight(2, 0, DENY);
        Check.due("the rights of others", Ask.found(y, 0, 1, 0, ALL, every), "0 1");
    }

    private static void deepRights() {
        Check.part("promise 18, deep");
        EntryMasters x = new EntryMasters();
        int last = 1;
        for (int i = 0; i < 40; i++) {
            last = x.add(0, last, 0, 0);
        }
        int anything = Ask.anything(x);
        Check.due("the deepest", x.search(0, 0, last, BASE, anything, 0), 41);
        Check.due("the last place", x.search(0, 0, 0, ALL, anything, 41), 41);
        Check.due("no more", x.search(0, 0, 0, ALL, anything, 42), NONE);
        x.setRight(0, 0, DENY);
        Check.due("the root's right", x.search(0, 0, last, BASE, anything, 0), NONE);
        x.setRight(0, 21, ALLOW);
        Check.due("the nearer one", x.search(0, 0, last, BASE, anything, 0), 41);
        Check.due("from there on", x.search(0, 0, 0, ALL, anything, 0), 21);
    }

    private static void refer() {
        Check.part("promise 19");
        EntryMasters x = new EntryMasters();
        int a = x.add(0, 0, 1, 0);
        int b = x.add(0, a, 1, 0);
        x.add(0, b, 1, 0);
        int anything = Ask.anything(x);
        x.refer(a, true);
        Check.due("nor what lies below", Ask.found(x, 0, 0, 0, ALL, anything), "0 1");
        Check.due("not of one level", Ask.found(x, 0, 0, 0, ONE, anything), "1");
        Check.due("but as the base", Ask.found(x, 0, 0, a, ALL, anything), "2 3 4");
        Check.due("base alone", Ask.found(x, 0, 0, a, BASE, anything), "2");
        Check.due("what is under it as the base", Ask.found(x, 0, 0, a, ONE, anything), "3");
        Check.due("below it as the base", Ask.found(x, 0, 0, b, ALL, anything), "3 4");
        x.refer(4, true);
        Check.due("two of them", Ask.found(x, 0, 0, a, ALL, anything), "2 3");
        x.refer(a, false);
        Check.due("none any more", Ask.found(x, 0, 0, 0, ALL, anything), "0 2 3 1");
        x.refer(1, true);
        x.refer(0, true);
        Check.due("root and lost one", Ask.found(x, 0, 0, 0, ALL, anything), "0 2 3");
        Check.due("at both masters", Ask.found(x, 1, 0, 0, ALL, anything), "0");
        x.refer(5, true);
        x.add(1, 0, 1, 0);
        Check.due("ahead of the entry", Ask.found(x, 1, 0, 0, ALL, anything), "0");
        x.refer(5, false);
        Check.due("not any more", Ask.found(x, 1, 0, 0, ALL, anything), "0 5");
        Check.due("holds all the same", x.holds(0, anything, 4), 1);
        for (int bad : new int[] {-1, 42, LEAST, GREATEST}) {
            Check.index("entry " + bad, () -> x.refer(bad, true));
            Check.index("entry, none " + bad, () -> x.refer(bad, false));
        }
        Check.nothing("the last entry", () -> x.refer(41, true));
        Check.due("no change", x.changes(), 4);
    }

    private static void test() {
        Check.part("promise 20");
        EntryMasters x = new EntryMasters();
        Check.due("first", x.test(0, 1, 9), 0);
        Check.due("second", x.test(1, 1, 5), 1);
        Check.due("third", x.test(2, 1, 5), 2);
        Check.due("0 or more", x.test(2, 1, 0), 3);
        Check.due("another attribute", x.test(1, 3, 5), 4);
        int[][] want = {{NONE, 0, 0, 0, 0}, {4, 1, 0, 0, 1}, {5, 1, 1, 1, 1}, {6, 1, 0, 1, 1}, {0, 1, 0, 0, 1}};
        for (int[] row : want) {
            x.set(0, 0, 1, row[0]);
            for (int filter = 0; filter < 4; filter++) {
                Check.due("filter " + filter + " of " + row[0], x.holds(0, filter, 0), row[filter + 1]);
            }
            Check.due("other filter of " + row[0], x.holds(0, 4, 0), 0);
        }
        for (int bad : new int[] {-1, 3, LEAST, GREATEST}) {
            Check.argument("kind " + bad, () -> x.test(bad, 0, 0));
        }
        for (int bad : new int[] {-1, 4, LEAST, GREATEST}) {
            Check.argument("attribute " + bad, () -> x.test(0, bad, 0));
        }
        for (int bad : new int[] {-1, 10, LEAST, GREATEST}) {
            for (int kind = 0; kind < 3; kind++) {
                int its = kind;
                Check.argument("value " + bad + " of kind " + its, () -> x.test(its, 0, bad));
            }
        }
        Check.due("none by these", x.test(0, 0, 0), 5);
    }

    private static void join() {
        Check.part("promise 21");
        EntryMasters x = new EntryMasters();
        x.setClass(1, 0, 3);
        int entry = x.add(0, 0, 0, 1);
        x.set(0, entry, 0, 1);
        int isTrue = x.test(0, 0, 0);
        int isFalse = x.test(0, 1, 0);
        int isUnknown = x.test(0, 2, 0);
        int[] parts = {isTrue, isFalse, isUnknown};
        int[] both = {1, 0, NONE, 0, 0, 0, NONE, 0, NONE};
        int[] either = {1, 1, 1, 1, 0, NONE, 1, NONE, NONE};
        int[] not = {0, 1, NONE};
        Check.due("the next number", x.join(0, isTrue, isTrue), 3);
        for (int i = 0; i < 3; i++) {
            Check.due("not " + i, x.holds(0, x.join(2, parts[i], isTrue), entry), not[i]);
        }
        for (int i = 0; i < 9; i++) {
            int filter = x.join(0, parts[i / 3], parts[i % 3]);
            Check.due("both " + i, x.holds(0, filter, entry), both[i]);
        }
        EntryMasters y = new EntryMasters();
        y.setClass(0, 0, 3);
        y.set(1, 0, 0, 1);
        y.test(0, 0, 0);
        y.test(0, 1, 0);
        y.test(0, 2, 0);
        for (int i = 0; i < 9; i++) {
            int filter = y.join(1, parts[i / 3], parts[i % 3]);
            Check.due("either " + i, y.holds(1, filter, 0), either[i]);
        }
        for (int bad : new int[] {-1, 12, 20, LEAST, GREATEST}) {
            for (int kind = -1; kind < 4; kind++) {
                int its = kind;
                Check.index("first " + bad + " of " + its, () -> y.join(its, bad, 0));
                Check.index("second " + bad + " of " + its, () -> y.join(its, 0, bad));
            }
        }
        for (int bad : new int[] {-1, 3, LEAST, GREATEST}) {
            Check.argument("kind " + bad, () -> y.join(bad, 0, 0));
        }
        Check.due("none by these", y.join(2, 11, 11), 12);
        Check.index("no filter yet", () -> new EntryMasters().join(0, 0, 0));
    }

    private static void twentyFilters() {
        Check.part("promises 20 and 21, 20 filters");
        EntryMasters x = new EntryMasters();
        x.test(0, 0, 0);
        for (int i = 1; i < 20; i++) {
            Check.due("filter " + i, x.join(2 - i % 2, i - 1, i - 1), i);
        }
        Check.state("test", () -> x.test(0, 0, 0));
        Check.state("join", () -> x.join(0, 0, 0));
        Check.argument("test's argument first", () -> x.test(3, 0, 0));
        Check.argument("join's kind first", () -> x.join(3, 0, 0));
        Check.index("join's filter first", () -> x.join(0, 0, 20));
        Check.due("nine times not", x.holds(0, 19, 0), 1);
        x.set(0, 0, 0, 1);
        Check.due("nine times not, with a value", x.holds(0, 19, 0), 0);
        Check.due("searched", x.search(0, 0, 0, ALL, 19, 0), 1);
    }

    private static void holds() {
        Check.part("promise 22");
        EntryMasters x = new EntryMasters();
        x.setClass(0, 0, 1);
        x.setClass(2, 0, 2);
        int a = x.add(0, 0, 1, 2);
        int filter = x.test(0, 1, 0);
        Check.due("root's class", x.holds(0, filter, 0), NONE);
        Check.due("lost one's class", x.holds(0, filter, 1), NONE);
        Check.due("false", x.holds(0, filter, a), 0);
        x.set(0, a, 1, 0);
        Check.due("true", x.holds(0, filter, a), 1);
        x.carry(0, 1);
        Check.due("at the other master", x.holds(1, filter, a), 0);
        x.setRight(0, a, DENY);
        Check.due("rights do not count", x.holds(0, filter, a), 1);
        for (int bad : BAD_MASTERS) {
            Check.index("master " + bad, () -> x.holds(bad, 0, 0));
        }
        for (int bad : new int[] {-1, 1, 20, LEAST, GREATEST}) {
            Check.index("filter " + bad, () -> x.holds(0, bad, 0));
        }
        for (int bad : new int[] {-1, 3, 42, LEAST, GREATEST}) {
            Check.index("entry " + bad, () -> x.holds(0, 0, bad));
        }
    }

    private static void search() {
        Check.part("promise 23");
        EntryMasters x = new EntryMasters();
        x.setClass(1, 0, 2);
        int a = x.add(0, 0, 20, 0);
        int b = x.add(0, a, 30, 0);
        int c = x.add(0, a, 5, 1);
        int d = x.add(0, 0, 3, 0);
        x.set(0, b, 0, 7);
        x.set(0, d, 0, 8);
        x.set(0, 1, 0, 2);
        int present = x.test(0, 0, 0);
        int seven = x.test(2, 0, 7);
        int none = x.join(2, present, 0);
        Check.due("all", Ask.found(x, 0, 0, 0, ALL, present), d + " " + b + " 1");
        Check.due("7 or more", Ask.found(x, 0, 0, 0, ALL, seven), d + " " + b);
        Check.due("not, but unknown", Ask.found(x, 0, 0, 0, ALL, none), "0 " + a);
        Check.due("one level", Ask.found(x, 0, 0, 0, ONE, present), d + " 1");
        Check.due("not the base itself", Ask.found(x, 0, 0, 0, ONE, none), "" + a);
        Check.due("the base alone", Ask.found(x, 0, 0, 0, BASE, none), "0");
        Check.due("not the base", Ask.found(x, 0, 0, 0, BASE, present), "");
        Check.due("from below", Ask.found(x, 0, 0, a, ALL, present), "" + b);
        Check.due("unknown is not found", Ask.found(x, 0, 0, c, BASE, none), "");
        Check.due("at the other master", Ask.found(x, 1, 0, 0, ALL, none), "0 1");
        Check.due("the greatest place", x.search(0, 0, 0, ALL, present, GREATEST), NONE);
        x.setRight(1, d, DENY);
        Check.due("the user's right", Ask.found(x, 0, 1, 0, ALL, present), b + " 1");
        x.setRight(1, 0, DENY);
        x.setRight(1, a, ALLOW);
        Check.due("a denied base", Ask.found(x, 0, 1, 0, ALL, present), "" + b);
        Check.due("below a denied entry", x.search(0, 1, 0, ALL, present, 0), b);
        Check.due("one place further", x.search(0, 1, 0, ALL, present, 1), NONE);
    }

    private static void searchOrder() {
        Check.part("promise 23, order");
        EntryMasters x = new EntryMasters();
        x.add(0, 0, 60, 0);
        x.add(0, 0, 61, 0);
        x.add(0, 0, 62, 0);
        x.add(0, 0, 5, 0);
        x.add(0, 3, 0, 0);
        x.add(0, 3, 48, 0);
        x.add(1, 0, 12, 0);
        x.add(1, 0, 11, 0);
        x.add(1, 0, 10, 0);
        x.add(1, 9, 1, 0);
        int anything = Ask.anything(x);
        for (int change = 0; change < 10; change++) {
            x.carry(change, 0);
            x.carry(change, 1);
        }
        Check.due("first of 12 and 62", x.labelOf(0, 8), 12);
        Check.due("second of them", x.labelOf(0, 4), NONE);
        Check.due("first of 61 and 11, of one time", x.labelOf(0, 3), 61);
        Check.due("second of them", x.labelOf(0, 9), NONE);
        Check.due("second of 60 and 10", x.labelOf(0, 10), NONE);
        String all = "0 5 8 2 3 6 7 1 4 9 11 10";
        Check.due("all", Ask.found(x, 0, 0, 0, ALL, anything), all);
        Check.due("all at the other", Ask.found(x, 1, 0, 0, ALL, anything), all);
        Check.due("one level", Ask.found(x, 0, 0, 0, ONE, anything), "5 8 2 3 1 4 9 10");
        Check.due("below", Ask.found(x, 0, 0, 3, ALL, anything), "3 6 7");
        Check.due("one level with the label 0", Ask.found(x, 0, 0, 3, ONE, anything), "6 7");
        x.refer(5, true);
        x.refer(3, true);
        x.refer(10, true);
        Check.due("without referrals", Ask.found(x, 0, 0, 0, ALL, anything), "0 8 2 1 4 9 11");
        Check.due("one level too", Ask.found(x, 0, 0, 0, ONE, anything), "8 2 1 4 9");
        Check.due("a referral as the base", Ask.found(x, 0, 0, 3, ALL, anything), "3 6 7");
    }

    private static void searchThrows() {
        Check.part("promise 23, wrong inputs");
        EntryMasters x = new EntryMasters();
        x.add(0, 0, 1, 0);
        x.test(0, 0, 0);
        for (int bad : BAD_MASTERS) {
            Check.index("master " + bad, () -> x.search(bad, 0, 0, 0, 0, 0));
        }
        for (int bad : new int[] {-1, 3, LEAST, GREATEST}) {
            Check.index("user " + bad, () -> x.search(0, bad, 0, 0, 0, 0));
            Check.index("user ahead of scope " + bad, () -> x.search(0, bad, 0, 3, 0, 0));
        }
        for (int bad : new int[] {-1, 3, 42, LEAST, GREATEST}) {
            Check.index("base " + bad, () -> x.search(0, 0, bad, 0, 0, 0));
            Check.index("base ahead of scope " + bad, () -> x.search(0, 0, bad, -1, 0, 0));
        }
        Check.index("base of the other tree", () -> x.search(1, 0, 2, 0, 0, 0));
        for (int bad : new int[] {-1, 1, 20, LEAST, GREATEST}) {
            Check.index("filter " + bad, () -> x.search(0, 0, 0, 0, bad, 0));
            Check.index("filter ahead of scope " + bad, () -> x.search(0, 0, 0, 3, bad, 0));
        }
        for (int bad : new int[] {-1, LEAST}) {
            Check.index("place " + bad, () -> x.search(0, 0, 0, 0, 0, bad));
            Check.index("place ahead of scope " + bad, () -> x.search(0, 0, 0, 3, 0, bad));
        }
        for (int bad : new int[] {-1, 3, LEAST, GREATEST}) {
            Check.argument("scope " + bad, () -> x.search(0, 0, 0, bad, 0, 0));
        }
    }

    private static void throwsChangeNothing() {
        Check.part("a call that throws changes nothing");
        EntryMasters x = new EntryMasters();
        x.setClass(1, 0, 1);
        int a = x.add(0, 0, 1, 1);
        x.add(0, a, 1, 0);
        x.set(0, a, 0, 4);
        String before = Ask.tree(x, 0) + Ask.tree(x, 1);
        Check.state("add", () -> x.add(0, 0, 51, 0));
        Check.state("set", () -> x.set(0, a, 1, 1));
        Check.argument("set's value", () -> x.set(0, a, 0, 10));
        Check.state("move", () -> x.move(0, a, a, 2));
        Check.state("move to a label that is there", () -> x.move(0, 3, 0, 49));
        Check.state("delete", () -> x.delete(0, a));
        Check.state("setClass", () -> x.setClass(1, 15, 15));
        Check.index("carry", () -> x.carry(0, 2));
        Check.due("trees", Ask.tree(x, 0) + Ask.tree(x, 1), before);
        Check.due("whole", x.isWhole(0, a), true);
        Check.due("the next change's number", x.add(0, 0, 9, 0), 5);
        Check.due("the next change's time", x.timeOf(3), 4);
        int anything = Ask.anything(x);
        Check.argument("right", () -> x.setRight(0, 0, 2));
        Check.index("user", () -> x.setRight(-1, 41, DENY));
        Check.index("entry", () -> x.setRight(0, 42, DENY));
        Check.due("rights", x.search(0, 1, 1, BASE, anything, 0), 1);
    }
}
