/**
 * For each sentence of the promises that names a bound: the least and the greatest that is allowed
 * with what they do, the first outside on either side, the empty case and the full one. What a
 * refused call leaves as it was, and which exception comes first, is RefusalTest's.
 */
public final class EdgeTest {
    private static final int NONE = EntryMasters.NONE;
    private static final int ALLOW = EntryMasters.ALLOW, DENY = EntryMasters.DENY;
    private static final int BASE = EntryMasters.BASE;
    private static final int ONE = EntryMasters.ONE;
    private static final int ALL = EntryMasters.ALL;
    private static final int LEAST = Integer.MIN_VALUE, GREATEST = Integer.MAX_VALUE;
    /** Numbers that wrap around to good ones if a row's place is reckoned from them unlooked at. */
    private static final int[] FAR_OFF = {LEAST, LEAST + 1, -42, -2, GREATEST - 1, GREATEST, 1 << 30, 1 << 16};

    private interface Taking {
        void take(int number);
    }

    public static void main(String[] args) {
        newObjectKnowsNothing();
        newObjectMarksNothing();
        setClassBounds();
        setClassAfterChange();
        addBounds();
        addNumbers();
        addLabels();
        setBounds();
        setLastChange();
        moveBounds();
        moveDeep();
        moveLastChange();
        deleteBounds();
        deleteLastChange();
        deleteAboveEach();
        changesFull();
        carryBounds();
        carryFull();
        timeOfBounds();
        entriesBounds();
        isThereBounds();
        parentAndLabelBounds();
        valueBounds();
        isWholeBounds();
        findBounds();
        findEmpty();
        areAlikeEdges();
        areAlikeByOneThing();
        areAlikeByTheLast();
        areAlikeButForWhatIsGone();
        setRightBounds();
        setRightFull();
        referBounds();
        testBounds();
        testEdges();
        joinBounds();
        filtersFull();
        holdsBounds();
        searchBounds();
        searchEmpty();
        searchFull();
        Check.finish("EdgeTest");
    }

    // ---- what several promises need

    /** None of these is taken: the first outside on either side, and such as are far off. */
    private static void refusesAround(String what, int least, int greatest, String thrown, Taking call) {
        Check.due(what + " " + (least - 1), Check.outcome(() -> call.take(least - 1)), thrown);
        Check.due(what + " " + (greatest + 1), Check.outcome(() -> call.take(greatest + 1)), thrown);
        for (int far : FAR_OFF) {
            if (far < least || far > greatest) {
                Check.due(what + " " + far, Check.outcome(() -> call.take(far)), thrown);
            }
        }
    }

    private static void noIndexAround(String what, int least, int greatest, Taking call) {
        refusesAround(what, least, greatest, "IndexOutOfBoundsException", call);
    }

    private static void noArgumentAround(String what, int least, int greatest, Taking call) {
        refusesAround(what, least, greatest, "IllegalArgumentException", call);
    }

    /** Entries 2, 3 .. each under the one before, the first of them under the given one. */
    private static EntryMasters chain(int master, int top, int length) {
        EntryMasters x = new EntryMasters();
        int parent = top;
        for (int i = 0; i < length; i++) {
            parent = x.add(master, parent, 7, 0);
        }
        return x;
    }

    /** The numbers from one to another, as Ask.found tells them. */
    private static String numbers(int first, int last) {
        StringBuilder text = new StringBuilder();
        for (int i = first; i <= last; i++) {
            text.append(i == first ? "" : " ").append(i);
        }
        return text.toString();
    }

    /** Makes changes that do little, up to so many. */
    private static void fill(EntryMasters x, int master, int upTo) {
        while (x.changes() < upTo) {
            x.set(master, 0, 0, x.changes() % 10);
        }
    }

    // ---- promise 1

    private static void newObjectKnowsNothing() {
        Check.part("promise 1: no changes and filters");
        EntryMasters x = new EntryMasters();
        Check.due("changes", x.changes(), 0);
        noIndexAround("timeOf", 0, -1, change -> x.timeOf(change));
        noIndexAround("carry", 0, -1, change -> x.carry(change, 0));
        noIndexAround("holds", 0, -1, filter -> x.holds(0, filter, 0));
        noIndexAround("search", 0, -1, filter -> x.search(0, 0, 0, BASE, filter, 0));
        noIndexAround("join", 0, -1, filter -> x.join(2, filter, filter));
        Check.due("the first filter", x.test(0, 0, 0), 0);
        Check.due("the first entry", x.add(1, 0, 0, 0), 2);
        Check.due("the first time", x.timeOf(0), 1);
    }

    private static void newObjectMarksNothing() {
        Check.part("promise 1: no rights and referrals; classes need nothing and allow all");
        for (int user = 0; user < 3; user++) {
            EntryMasters x = chain(0, 1, 40);
            int every = Ask.anything(x);
            Check.due("user " + user, Ask.found(x, 0, user, 0, ALL, every), numbers(0, 41));
        }
        EntryMasters x = new EntryMasters();
        for (int its = 0; its < 3; its++) {
            int entry = x.add(0, 0, its, its);
            Check.due("class " + its + " needs nothing", x.isWhole(0, entry), true);
            for (int a = 0; a < 4; a++) {
                int filter = x.test(0, a, 0);
                Check.due("class " + its + " allows " + a, x.holds(0, filter, entry), 0);
                Check.due("class " + its + " takes " + a, x.set(0, entry, a, 9), NONE);
            }
        }
    }

    // ---- promise 2

    private static void setClassBounds() {
        Check.part("promise 2: its 0 to 2, needed 0 to 15, allowed 0 to 15");
        EntryMasters x = new EntryMasters();
        noIndexAround("its", 0, 2, its -> x.setClass(its, 0, 0));
        noArgumentAround("needed", 0, 15, needed -> x.setClass(0, needed, 0));
        noArgumentAround("allowed", 0, 15, allowed -> x.setClass(0, 0, allowed));
        for (int its = 0; its < 3; its += 2) {
            for (int needed = 0; needed < 16; needed += 15) {
                for (int allowed = 0; allowed < 16; allowed += 15) {
                    EntryMasters y = new EntryMasters();
                    y.setClass(its, needed, allowed);
                    int entry = y.add(0, 0, 0, its);
                    Check.due("needed " + needed, y.isWhole(0, entry), needed == 0);
                    String want = needed + allowed > 0 ? "nothing thrown" : "IllegalStateException";
                    Check.due("allowed " + allowed, Check.outcome(() -> y.set(0, entry, 0, 1)), want);
                    Check.due("allowed too " + allowed, Check.outcome(() -> y.set(0, entry, 3, 1)), want);
                }
            }
        }
    }

    private static void setClassAfterChange() {
        Check.part("promise 2: IllegalStateException if a change was made");
        for (int master = 0; master < 2; master++) {
            EntryMasters x = new EntryMasters();
            x.setClass(2, 0, 0);
            x.setClass(2, 0, 15);
            x.setClass(2, 1, 2);
            Check.state("a refused change is none", () -> x.add(0, 0, 99, 0));
            x.setClass(2, 2, 1);
            x.add(master, 0, 0, 2);
            Check.state("one change at " + master, () -> x.setClass(2, 0, 15));
            Check.state("of another class", () -> x.setClass(1, 0, 0));
            x.delete(master, 2);
            Check.state("deleted again", () -> x.setClass(0, 0, 15));
        }
    }

    // ---- promise 3

    private static void addBounds() {
        Check.part("promise 3: master 0 or 1, its 0 to 2, parent an entry that is there");
        EntryMasters x = new EntryMasters();
        x.add(0, 0, 1, 0);
        x.add(0, 2, 1, 0);
        x.add(1, 0, 2, 0);
        x.delete(0, 3);
        noIndexAround("master", 0, 1, master -> x.add(master, 0, 5, 0));
        noIndexAround("its", 0, 2, its -> x.add(0, 0, 5, its));
        noIndexAround("parent of the first", 0, 2, parent -> x.add(0, parent, 5, 0));
        noIndexAround("parent of the second", 0, 4, parent -> x.add(1, parent, 5, 0));
        Check.index("deleted", () -> x.add(0, 3, 5, 0));
        Check.index("of the first alone", () -> x.add(1, 2, 5, 0));
        Check.index("of the second alone", () -> x.add(0, 4, 5, 0));
        Check.index("the number that it would get", () -> x.add(0, 6, 5, 0));
        Check.due("under the root", x.add(1, 0, 5, 2), 6);
        Check.due("under the lost one", x.add(1, 1, 5, 0), 7);
        Check.due("under the greatest", x.add(1, 7, 5, 1), 8);
        Check.due("parents", x.parentOf(1, 6) * 100 + x.parentOf(1, 7) * 10 + x.parentOf(1, 8), 17);
    }

    private static void addNumbers() {
        Check.part("promise 3: IllegalStateException if there are 40 changes; the number of the entry");
        for (int master = 0; master < 2; master++) {
            EntryMasters x = new EntryMasters();
            int at = master;
            Check.due("the first", x.add(master, 0, 0, 0), 2);
            fill(x, 1 - master, 39);
            Check.due("the 40th", x.add(master, 2, 0, 0), 41);
            Check.due("is there", x.parentOf(master, 41), 2);
            Check.state("the 41st", () -> x.add(at, 41, 0, 0));
            Check.state("at the other", () -> x.add(1 - at, 0, 0, 0));
            Check.due("changes", x.changes(), 40);
        }
    }

    private static void addLabels() {
        Check.part("promise 3: label 0 to 99; or a label like it is there under the parent");
        EntryMasters x = new EntryMasters();
        x.add(0, 0, 0, 0);
        noArgumentAround("label", 0, 99, label -> x.add(0, 2, label, 0));
        for (int label : new int[] {0, 1, 48, 49, 50, 51, 98, 99}) {
            EntryMasters y = new EntryMasters();
            y.add(0, 0, 5, 0);
            int entry = y.add(0, 2, label, 0);
            Check.due("label " + label, y.labelOf(0, entry), label);
            Check.state("the same again", () -> y.add(0, 2, label, 0));
            Check.state("50 from it", () -> y.add(0, 2, (label + 50) % 100, 0));
            Check.nothing("1 from it", () -> y.add(0, 2, (label + 1) % 100, 0));
            Check.nothing("under itself", () -> y.add(0, entry, label, 0));
            Check.nothing("at the other master", () -> y.add(1, 1, label, 0));
        }
        Check.state("the lost one's", () -> x.add(1, 0, 99, 0));
        Check.state("like the lost one's", () -> x.add(1, 0, 49, 0));
        Check.nothing("the least under the root", () -> x.add(1, 0, 0, 0));
        Check.nothing("the greatest under the root", () -> x.add(1, 0, 98, 0));
    }

    // ---- promise 4

    private static void setBounds() {
        Check.part("promise 4: attribute 0 to 3, value 0 to 9 or NONE, an entry that is there");
        EntryMasters x = new EntryMasters();
        int entry = x.add(0, 0, 0, 2);
        noIndexAround("master", 0, 1, master -> x.set(master, 0, 0, 0));
        noIndexAround("entry", 0, 2, number -> x.set(0, number, 0, 0));
        noIndexAround("entry of the other", 0, 1, number -> x.set(1, number, 0, 0));
        noIndexAround("attribute", 0, 3, attribute -> x.set(0, entry, attribute, 0));
        noArgumentAround("value", NONE, 9, value -> x.set(0, entry, 0, value));
        for (int a = 0; a < 4; a += 3) {
            Check.due("none before", x.set(0, entry, a, 0), NONE);
            Check.due("0 before", x.set(0, entry, a, 9), 0);
            Check.due("9 before", x.set(0, entry, a, NONE), 9);
            Check.due("none again", x.set(0, entry, a, NONE), NONE);
            Check.due("none", x.value(0, entry, a), NONE);
        }
        Check.due("root", x.set(1, 0, 3, 9), NONE);
        Check.due("lost one", x.set(1, 1, 0, 0), NONE);
        Check.due("not at the other", x.set(0, 0, 3, 8), NONE);
    }

    private static void setLastChange() {
        Check.part("promise 4: 40 changes, or its class does not allow the attribute");
        EntryMasters x = new EntryMasters();
        x.setClass(1, 0, 14);
        x.setClass(2, 0, 7);
        x.add(0, 0, 0, 1);
        x.add(0, 0, 1, 2);
        Check.state("class 1", () -> x.set(0, 2, 0, 5));
        Check.state("class 1, to none", () -> x.set(0, 2, 0, NONE));
        Check.state("class 2", () -> x.set(0, 3, 3, 5));
        Check.due("the next one", x.set(0, 2, 1, 5) + x.set(0, 3, 2, 5), NONE + NONE);
        fill(x, 1, 39);
        Check.due("the 40th", x.set(0, 2, 3, 7), NONE);
        Check.due("is done", x.value(0, 2, 3), 7);
        Check.state("the 41st", () -> x.set(0, 2, 3, 8));
        Check.due("is not", x.value(0, 2, 3), 7);

        EntryMasters y = chain(1, 0, 39);
        Check.due("the greatest that can be set", y.set(1, 40, 3, 9), NONE);
        Check.due("its value", y.value(1, 40, 3), 9);
        Check.due("of the one before", y.value(1, 39, 3), NONE);
        Check.due("its first", y.value(1, 40, 0), NONE);
    }

    // ---- promise 5

    private static void moveBounds() {
        Check.part("promise 5: entries that are there, label 0 to 99");
        EntryMasters x = new EntryMasters();
        x.add(0, 0, 10, 0);
        x.add(0, 0, 20, 0);
        x.add(0, 2, 30, 0);
        noIndexAround("master", 0, 1, master -> x.move(master, 2, 0, 5));
        noIndexAround("entry", 0, 4, entry -> x.move(0, entry, 3, 5));
        noIndexAround("entry of the other", 0, 1, entry -> x.move(1, entry, 0, 5));
        noIndexAround("parent", 0, 4, parent -> x.move(0, 2, parent, 5));
        noIndexAround("parent of the root", 0, 4, parent -> x.move(0, 0, parent, 5));
        noArgumentAround("label", 0, 99, label -> x.move(0, 2, 3, label));
        noArgumentAround("label of the root", 0, 99, label -> x.move(0, 0, 3, label));
        Check.due("to the least", x.move(0, 2, 3, 0), 0);
        Check.due("least", x.labelOf(0, 2), 0);
        Check.due("to the greatest", x.move(0, 2, 3, 99), 3);
        Check.due("greatest", x.labelOf(0, 2), 99);
        Check.state("the root", () -> x.move(0, 0, 3, 5));
        Check.state("the root to itself", () -> x.move(0, 0, 0, 5));
        Check.state("the lost one", () -> x.move(0, 1, 3, 5));
        Check.state("the lost one to itself", () -> x.move(1, 1, 1, 5));
        Check.state("itself", () -> x.move(0, 3, 3, 5));
        Check.state("what is under it", () -> x.move(0, 3, 2, 5));
        Check.state("what is below it", () -> x.move(0, 3, 4, 5));
        Check.state("like the lost one's", () -> x.move(0, 2, 0, 49));
        Check.state("like another one's", () -> x.move(0, 2, 0, 70));
        Check.due("where it is, by its own label", x.move(0, 4, 2, 30), 2);
        Check.due("by one like its own", x.move(0, 4, 2, 80), 2);
        Check.due("renamed", x.labelOf(0, 4), 80);
        Check.due("changes", x.changes(), 7);
    }

    private static void moveDeep() {
        Check.part("promise 5: the parent is the entry or below it, as far down as can be");
        EntryMasters x = chain(1, 1, 39);
        Check.state("the lost one to the deepest", () -> x.move(1, 1, 40, 5));
        Check.state("the root to the deepest", () -> x.move(1, 0, 40, 5));
        Check.state("the first to the deepest", () -> x.move(1, 2, 40, 5));
        Check.state("the deepest to itself", () -> x.move(1, 40, 40, 5));
        Check.due("the deepest to the root", x.move(1, 40, 0, 5), 39);
        Check.due("is there", x.parentOf(1, 40), 0);
        EntryMasters y = chain(0, 0, 39);
        Check.due("the first from the root", y.move(0, 2, 1, 98), 0);
        Check.due("the deepest goes along", y.parentOf(0, 40), 39);
        Check.due("all are there", y.entries(0), 41);
        Check.due("all below the lost one", Ask.found(y, 0, 0, 1, ALL, Ask.anything(y)), numbers(1, 40));
    }

    private static void moveLastChange() {
        Check.part("promise 5: IllegalStateException if there are 40 changes");
        EntryMasters x = new EntryMasters();
        x.add(0, 0, 10, 0);
        fill(x, 1, 39);
        Check.due("the 40th", x.move(0, 2, 1, 99), 0);
        Check.due("is done", x.labelOf(0, 2), 99);
        Check.state("the 41st", () -> x.move(0, 2, 0, 10));
        Check.due("is not", x.parentOf(0, 2), 1);
    }

    // ---- promise 6

    private static void deleteBounds() {
        Check.part("promise 6: an entry that is there, none below it");
        EntryMasters x = new EntryMasters();
        x.add(0, 0, 1, 0);
        x.add(0, 1, 1, 0);
        x.add(0, 3, 1, 0);
        noIndexAround("master", 0, 1, master -> x.delete(master, 2));
        noIndexAround("entry", 0, 4, entry -> x.delete(0, entry));
        noIndexAround("entry of the other", 0, 1, entry -> x.delete(1, entry));
        Check.state("the root", () -> x.delete(0, 0));
        Check.state("the root with the lost one alone", () -> x.delete(1, 0));
        Check.state("the lost one with one below", () -> x.delete(0, 1));
        Check.state("the lost one with none below", () -> x.delete(1, 1));
        Check.state("one below it", () -> x.delete(0, 3));
        Check.due("the greatest", x.delete(0, 4), 4);
        Check.due("none below it then", x.delete(0, 3), 3);
        Check.due("down to two", x.delete(0, 2), 2);
        Check.due("entries", x.entries(0), 2);
        for (int gone = 2; gone < 8; gone++) {
            int entry = gone;
            Check.index("gone " + gone, () -> x.delete(0, entry));
        }
    }

    private static void deleteLastChange() {
        Check.part("promise 6: IllegalStateException if there are 40 changes");
        EntryMasters x = chain(0, 0, 39);
        Check.state("one far up", () -> x.delete(0, 39));
        Check.due("the 40th, the greatest entry", x.delete(0, 40), 40);
        Check.due("is gone", x.isThere(0, 40), false);
        Check.state("the 41st", () -> x.delete(0, 39));
        Check.due("is not", x.isThere(0, 39), true);
    }

    private static void deleteAboveEach() {
        Check.part("promise 6, carried: each entry whose parent it was, from 3 to 41");
        EntryMasters x = new EntryMasters();
        x.add(0, 0, 1, 0);
        x.carry(0, 1);
        addNineteenBelow(x, 1, 2);
        fill(x, 0, 39);
        x.delete(0, 2);
        areUnderTheLost(x, 3, 21);
        EntryMasters y = new EntryMasters();
        y.add(0, 0, 1, 0);
        y.carry(0, 1);
        fill(y, 0, 20);
        y.delete(0, 2);
        addNineteenBelow(y, 1, 2);
        areUnderTheLost(y, 23, 41);
    }

    private static void addNineteenBelow(EntryMasters x, int master, int parent) {
        for (int label = 0; label < 19; label++) {
            x.add(master, parent, label, 0);
        }
    }

    /** By labels from 0, once both masters know all; ahead of it one of them still has the parent. */
    private static void areUnderTheLost(EntryMasters x, int first, int last) {
        Check.due("at first under their parent", Ask.found(x, 1, 0, 2, ONE, Ask.anything(x)), numbers(first, last));
        for (int change = 0; change < x.changes(); change++) {
            x.carry(change, 0);
            x.carry(change, 1);
        }
        for (int entry = first; entry <= last; entry++) {
            Check.due("parent of " + entry, x.parentOf(0, entry), 1);
            Check.due("label of " + entry, x.labelOf(0, entry), entry - first);
            Check.due("parent at the other of " + entry, x.parentOf(1, entry), 1);
        }
        Check.due("alike", x.areAlike(), true);
    }

    // ---- promises 7 to 9

    private static void changesFull() {
        Check.part("promise 8: the number of changes, from 0 to 40");
        EntryMasters x = new EntryMasters();
        for (int i = 0; i < 40; i++) {
            Check.due("so far", x.changes(), i);
            x.set(i % 2, 0, 0, 0);
        }
        Check.due("full", x.changes(), 40);
        Check.state("one more", () -> x.set(0, 0, 0, 0));
        Check.due("not one more", x.changes(), 40);
        Check.due("carried", x.carry(39, 0), true);
        Check.due("carrying makes none", x.changes(), 40);
    }

    private static void carryBounds() {
        Check.part("promise 7: a change; master 0 or 1");
        EntryMasters x = new EntryMasters();
        x.set(0, 0, 0, 1);
        x.set(0, 0, 0, 2);
        noIndexAround("change", 0, 1, change -> x.carry(change, 1));
        noIndexAround("master", 0, 1, master -> x.carry(0, master));
        Check.index("both", () -> x.carry(2, 2));
        Check.due("the last one", x.carry(1, 1), true);
        Check.due("at the other", x.value(1, 0, 0), 2);
        Check.due("the first one", x.carry(0, 1), true);
        Check.due("stays as it was", x.value(1, 0, 0), 2);
        Check.due("the first one again", x.carry(0, 1), false);
        Check.due("the last one again", x.carry(1, 1), false);
        Check.due("to where it was made", x.carry(1, 0), false);
    }

    private static void carryFull() {
        Check.part("promise 7: 40 changes, in any order");
        for (int step : new int[] {1, 3, 7, 39}) {
            EntryMasters x = chain(0, 0, 40);
            int change = 0;
            for (int i = 0; i < 40; i++) {
                change = (change + step) % 40;
                Check.due("was not known " + change, x.carry(change, 1), true);
                Check.due("entries", x.entries(1), i + 3);
            }
            Check.due("alike", x.areAlike(), true);
            Check.due("the deepest", x.parentOf(1, 41), 40);
            noIndexAround("change", 0, 39, number -> x.carry(number, 1));
            Check.due("the first is known", x.carry(0, 1), false);
            Check.due("the last is known", x.carry(39, 1), false);
        }
    }

    private static void timeOfBounds() {
        Check.part("promise 9: a change");
        EntryMasters x = chain(1, 0, 40);
        noIndexAround("change", 0, 39, change -> x.timeOf(change));
        Check.due("the least", x.timeOf(0), 1);
        Check.due("the greatest", x.timeOf(39), 40);
        EntryMasters y = new EntryMasters();
        fill(y, 1, 20);
        fill(y, 0, 40);
        Check.due("the last of one", y.timeOf(19), 20);
        Check.due("the first of the other", y.timeOf(20), 1);
        Check.due("the last of the other", y.timeOf(39), 20);
    }

    // ---- promises 10 to 15

    private static void entriesBounds() {
        Check.part("promise 10: the root and the lost one counted");
        EntryMasters x = chain(0, 0, 40);
        noIndexAround("master", 0, 1, master -> x.entries(master));
        Check.due("all", x.entries(0), 42);
        Check.due("the first two", x.entries(1), 2);
        x.carry(39, 1);
        Check.due("one more", x.entries(1), 3);
    }

    private static void isThereBounds() {
        Check.part("promise 11: any number");
        EntryMasters x = chain(1, 0, 40);
        noIndexAround("master", 0, 1, master -> x.isThere(master, 0));
        noIndexAround("master of any", 0, 1, master -> x.isThere(master, GREATEST));
        for (int entry = 0; entry < 42; entry++) {
            Check.due("of 40 " + entry, x.isThere(1, entry), true);
            Check.due("of none " + entry, x.isThere(0, entry), entry < 2);
        }
        for (int any : new int[] {LEAST, LEAST + 1, -42, -2, -1, 42, 43, 84, GREATEST - 1, GREATEST}) {
            Check.due("any " + any, x.isThere(1, any), false);
        }
    }

    private static void parentAndLabelBounds() {
        Check.part("promises 12 and 13: an entry that is there");
        EntryMasters x = new EntryMasters();
        x.add(0, 0, 0, 0);
        fill(x, 0, 39);
        x.add(0, 2, 99, 0);
        noIndexAround("master of parentOf", 0, 1, master -> x.parentOf(master, 0));
        noIndexAround("master of labelOf", 0, 1, master -> x.labelOf(master, 0));
        for (int gap : new int[] {-1, 3, 40, 42, LEAST, GREATEST}) {
            Check.index("parentOf " + gap, () -> x.parentOf(0, gap));
            Check.index("labelOf " + gap, () -> x.labelOf(0, gap));
        }
        noIndexAround("parentOf the other's", 0, 1, entry -> x.parentOf(1, entry));
        noIndexAround("labelOf the other's", 0, 1, entry -> x.labelOf(1, entry));
        Check.due("NONE for the root", x.parentOf(0, 0), NONE);
        Check.due("the root has none", x.labelOf(0, 0), NONE);
        Check.due("the lost one's parent", x.parentOf(0, 1), 0);
        Check.due("the lost one's label", x.labelOf(0, 1), 99);
        Check.due("the first one's parent", x.parentOf(0, 2), 0);
        Check.due("the least label", x.labelOf(0, 2), 0);
        Check.due("the last one's parent", x.parentOf(0, 41), 2);
        Check.due("the greatest label", x.labelOf(0, 41), 99);
    }

    private static void valueBounds() {
        Check.part("promise 14: attribute 0 to 3; the value, or NONE");
        EntryMasters x = chain(0, 0, 37);
        x.set(0, 38, 0, 0);
        x.set(0, 38, 3, 9);
        x.set(0, 0, 0, 7);
        noIndexAround("master", 0, 1, master -> x.value(master, 0, 0));
        noIndexAround("entry", 0, 38, entry -> x.value(0, entry, 0));
        noIndexAround("entry of the other", 0, 1, entry -> x.value(1, entry, 0));
        noIndexAround("attribute", 0, 3, attribute -> x.value(0, 38, attribute));
        noIndexAround("attribute of the root", 0, 3, attribute -> x.value(0, 0, attribute));
        int[] want = {0, NONE, NONE, 9};
        for (int a = 0; a < 4; a++) {
            Check.due("of the last one " + a, x.value(0, 38, a), want[a]);
            Check.due("of the one before " + a, x.value(0, 37, a), NONE);
            Check.due("of the root " + a, x.value(0, 0, a), a == 0 ? 7 : NONE);
            Check.due("of the lost one " + a, x.value(0, 1, a), NONE);
            Check.due("of the other's root " + a, x.value(1, 0, a), NONE);
        }
    }

    private static void isWholeBounds() {
        Check.part("promise 15: all values that its class needs");
        EntryMasters x = new EntryMasters();
        x.setClass(1, 15, 0);
        x.setClass(2, 9, 15);
        x.add(0, 0, 1, 1);
        x.add(0, 0, 2, 2);
        noIndexAround("master", 0, 1, master -> x.isWhole(master, 0));
        noIndexAround("entry", 0, 3, entry -> x.isWhole(0, entry));
        noIndexAround("entry of the other", 0, 1, entry -> x.isWhole(1, entry));
        for (int a = 0; a < 4; a++) {
            Check.due("needs all, has " + a, x.isWhole(0, 2), false);
            Check.due("needs two, has " + a, x.isWhole(0, 3), false);
            x.set(0, 2, a, 0);
            x.set(0, 3, a, 0);
        }
        Check.due("has all", x.isWhole(0, 2), true);
        Check.due("has both", x.isWhole(0, 3), true);
        x.set(0, 3, 1, NONE);
        Check.due("does not need this one", x.isWhole(0, 3), true);
        x.set(0, 3, 3, NONE);
        Check.due("needs the last one", x.isWhole(0, 3), false);
        Check.due("needs nothing", x.isWhole(0, 0) && x.isWhole(0, 1), true);
    }

    // ---- promises 16 and 17

    private static void findBounds() {
        Check.part("promise 16: a parent that is there, label 0 to 99");
        EntryMasters x = chain(0, 1, 39);
        x.add(0, 40, 50, 0);
        noIndexAround("master", 0, 1, master -> x.find(master, 0, 0));
        noIndexAround("parent", 0, 41, parent -> x.find(0, parent, 0));
        noIndexAround("parent of the other", 0, 1, parent -> x.find(1, parent, 0));
        noArgumentAround("label", 0, 99, label -> x.find(0, 0, label));
        Check.due("the least", x.find(0, 40, 0), 41);
        Check.due("like it", x.find(0, 40, 50), 41);
        Check.due("the next", x.find(0, 40, 1), NONE);
        Check.due("the one before", x.find(0, 40, 99), NONE);
        Check.due("the greatest", x.find(0, 0, 99), 1);
        Check.due("under the lost one", x.find(0, 1, 57), 2);
    }

    private static void findEmpty() {
        Check.part("promise 16: NONE if there is none");
        EntryMasters x = new EntryMasters();
        for (int label = 0; label < 100; label++) {
            Check.due("nothing is under the lost one " + label, x.find(0, 1, label), NONE);
            Check.due("the lost one alone " + label, x.find(1, 0, label), label % 50 == 49 ? 1 : NONE);
        }
        x.add(0, 0, 10, 0);
        Check.due("nothing is under it", x.find(0, 2, 10), NONE);
        Check.due("not itself", x.find(0, 0, 10), 2);
        Check.due("not at the other", x.find(1, 0, 10), NONE);
        x.delete(0, 2);
        Check.due("not any more", x.find(0, 0, 10), NONE);
    }

    private static void areAlikeEdges() {
        Check.part("promise 17: the same entries, parents, labels, classes and values");
        EntryMasters x = new EntryMasters();
        Check.due("new", x.areAlike(), true);
        for (int entry = 0; entry < 2; entry++) {
            for (int a = 0; a < 4; a++) {
                x.set(entry, entry, a, 0);
                Check.due("0 against none", x.areAlike(), false);
                x.set(entry, entry, a, NONE);
                Check.due("none again", x.areAlike(), true);
            }
        }
        EntryMasters y = chain(0, 0, 38);
        for (int change = 0; change < 38; change++) {
            Check.due("not yet", y.areAlike(), false);
            y.carry(change, 1);
        }
        Check.due("all carried", y.areAlike(), true);
        y.set(1, 39, 3, 0);
        Check.due("the last one's last value", y.areAlike(), false);
        y.carry(38, 0);
        Check.due("carried too", y.areAlike(), true);
        y.delete(0, 39);
        Check.due("the last one is gone", y.areAlike(), false);
        y.carry(39, 1);
        Check.due("at both", y.areAlike(), true);
    }

    private static void areAlikeByOneThing() {
        Check.part("promise 17: each of these alone makes them differ");
        EntryMasters x = new EntryMasters();
        x.add(0, 0, 1, 0);
        x.add(0, 0, 2, 0);
        x.carry(0, 1);
        x.carry(1, 1);
        Check.due("at first", x.areAlike(), true);
        x.move(0, 2, 0, 51);
        Check.due("a label like it, but another", x.areAlike(), false);
        x.move(1, 2, 0, 51);
        Check.due("the same label by another change", x.areAlike(), true);
        x.move(0, 2, 3, 51);
        Check.due("a parent", x.areAlike(), false);
        x.move(1, 2, 3, 51);
        Check.due("the same parent", x.areAlike(), true);
        x.set(1, 2, 2, 4);
        Check.due("a value", x.areAlike(), false);
        x.set(0, 2, 2, 5);
        Check.due("another value", x.areAlike(), false);
        x.set(0, 2, 2, 4);
        Check.due("the same value", x.areAlike(), true);
        x.delete(1, 2);
        Check.due("an entry more at the first", x.areAlike(), false);
        x.delete(0, 2);
        x.delete(0, 3);
        Check.due("an entry more at the second", x.areAlike(), false);
        x.delete(1, 3);
        Check.due("none of them", x.areAlike(), true);
        x.setRight(0, 0, DENY);
        x.refer(1, true);
        Check.due("rights and referrals do not count", x.areAlike(), true);
    }

    private static void areAlikeByTheLast() {
        Check.part("promise 17: the last entry of all at one of them alone");
        for (int master = 0; master < 2; master++) {
            EntryMasters x = chain(master, 0, 40);
            for (int change = 0; change < 39; change++) {
                x.carry(change, 1 - master);
            }
            Check.due("at one alone", x.isThere(master, 41) && !x.isThere(1 - master, 41), true);
            Check.due("differ", x.areAlike(), false);
            x.carry(39, 1 - master);
            Check.due("at both", x.areAlike(), true);
        }
    }

    private static void areAlikeButForWhatIsGone() {
        Check.part("promise 17: what is gone, or never was there, does not count");
        EntryMasters x = new EntryMasters();
        x.add(0, 0, 1, 0);
        x.carry(0, 1);
        x.set(0, 2, 0, 4);
        x.delete(0, 2);
        x.delete(1, 2);
        Check.due("had a value at one alone", x.areAlike(), true);
        EntryMasters y = new EntryMasters();
        y.add(0, 0, 1, 0);
        y.carry(0, 1);
        y.move(1, 2, 1, 7);
        y.delete(0, 2);
        y.delete(1, 2);
        Check.due("had another parent and label", y.areAlike(), true);
        EntryMasters z = new EntryMasters();
        z.add(0, 0, 1, 2);
        z.set(0, 2, 3, 0);
        z.delete(0, 2);
        Check.due("was there at one alone", z.areAlike(), true);
    }

    // ---- promises 18 and 19

    private static void setRightBounds() {
        Check.part("promise 18: user 0 to 2, entry 0 to 41, right ALLOW, DENY or NONE");
        EntryMasters x = new EntryMasters();
        int every = Ask.anything(x);
        noIndexAround("user", 0, 2, user -> x.setRight(user, 0, DENY));
        noIndexAround("entry", 0, 41, entry -> x.setRight(0, entry, DENY));
        noArgumentAround("right", NONE, DENY, right -> x.setRight(0, 0, right));
        for (int user = 0; user < 3; user++) {
            Check.due("not denied " + user, Ask.found(x, 0, user, 0, ALL, every), "0 1");
        }
        for (int user = 0; user < 3; user++) {
            x.setRight(user, 0, DENY);
            for (int other = 0; other < 3; other++) {
                String want = other == user ? "" : "0 1";
                Check.due(user + " denied, asked " + other, Ask.found(x, 1, other, 0, ALL, every), want);
            }
            x.setRight(user, 0, NONE);
            Check.due("none again", Ask.found(x, 0, user, 0, ALL, every), "0 1");
            x.setRight(user, 0, DENY);
            x.setRight(user, 0, ALLOW);
            Check.due("allowed again", Ask.found(x, 0, user, 0, ALL, every), "0 1");
            x.setRight(user, 1, DENY);
            Check.due("the lost one alone", Ask.found(x, 0, user, 0, ALL, every), "0");
            x.setRight(user, 1, NONE);
        }
    }

    private static void setRightFull() {
        Check.part("promise 18: at each of the entries 0 to 41");
        for (int user = 0; user < 3; user++) {
            EntryMasters x = new EntryMasters();
            for (int entry = 0; entry < 42; entry++) {
                x.setRight(user, entry, entry % 2 == 0 ? DENY : ALLOW);
            }
            for (int i = 0; i < 40; i++) {
                x.add(0, i % 3, 2 + i, 0);
            }
            int every = Ask.anything(x);
            for (int entry = 0; entry < 42; entry++) {
                int want = entry % 2 == 0 ? NONE : entry;
                Check.due("at " + entry, x.search(0, user, entry, BASE, every, 0), want);
                Check.due("of another user", x.search(0, (user + 1) % 3, entry, BASE, every, 0), entry);
            }
            x.setRight(user, 41, NONE);
            int parent = x.parentOf(0, 41);
            Check.due("the last one's is taken away", x.search(0, user, 41, BASE, every, 0),
                    parent % 2 == 0 ? NONE : 41);
        }
    }

    private static void referBounds() {
        Check.part("promise 19: entry 0 to 41; makes it a referral, or none");
        EntryMasters x = new EntryMasters();
        noIndexAround("entry", 0, 41, entry -> x.refer(entry, true));
        noIndexAround("entry, none", 0, 41, entry -> x.refer(entry, false));
        for (int i = 0; i < 40; i++) {
            x.add(0, 0, i, 0);
        }
        int every = Ask.anything(x);
        Check.due("none yet", x.search(0, 0, 0, ALL, every, 41), 1);
        for (int entry = 1; entry < 42; entry++) {
            x.refer(entry, true);
            int last = entry == 1 ? 41 : 1;
            Check.due("without " + entry, x.search(0, 0, 0, ALL, every, 40), last);
            Check.due("one less", x.search(0, 0, 0, ALL, every, 41), NONE);
            Check.due("itself as the base", x.search(0, 0, entry, BASE, every, 0), entry);
            x.refer(entry, false);
        }
        x.refer(0, true);
        Check.due("the root is always the base", x.search(0, 0, 0, ALL, every, 41), 1);
        for (int entry = 0; entry < 42; entry++) {
            x.refer(entry, true);
        }
        Check.due("all of them", Ask.found(x, 0, 0, 0, ALL, every), "0");
        Check.due("all of them, one level", Ask.found(x, 0, 0, 0, ONE, every), "");
    }

    // ---- promises 20 to 22

    private static void testBounds() {
        Check.part("promise 20: kind 0 to 2, attribute 0 to 3, value 0 to 9");
        EntryMasters x = new EntryMasters();
        noArgumentAround("kind", 0, 2, kind -> x.test(kind, 0, 0));
        noArgumentAround("attribute", 0, 3, attribute -> x.test(0, attribute, 0));
        for (int kind = 0; kind < 3; kind++) {
            int its = kind;
            noArgumentAround("value of the kind " + kind, 0, 9, value -> x.test(its, 0, value));
        }
        int made = 0;
        for (int kind = 0; kind < 3; kind += 2) {
            for (int attribute = 0; attribute < 4; attribute += 3) {
                for (int value = 0; value < 10; value += 9) {
                    Check.due("number", x.test(kind, attribute, value), made);
                    made++;
                }
            }
        }
    }

    private static void testEdges() {
        Check.part("promise 20: 0 it is present, 1 it has the value, 2 it has the value or more");
        for (int attribute = 0; attribute < 4; attribute++) {
            for (int value : new int[] {0, 1, 5, 8, 9}) {
                EntryMasters x = new EntryMasters();
                x.test(0, attribute, value);
                x.test(1, attribute, value);
                x.test(2, attribute, value);
                for (int held = NONE; held < 10; held++) {
                    x.set(0, 0, attribute, held);
                    String what = attribute + " is " + held + ", asked for " + value;
                    Check.due("present: " + what, x.holds(0, 0, 0), held == NONE ? 0 : 1);
                    Check.due("has: " + what, x.holds(0, 1, 0), held == value ? 1 : 0);
                    Check.due("or more: " + what, x.holds(0, 2, 0), held >= value ? 1 : 0);
                }
                Check.due("of another entry", x.holds(0, 0, 1), 0);
                Check.due("at the other master", x.holds(1, 2, 0), 0);
            }
        }
    }

    private static void joinBounds() {
        Check.part("promise 21: kind 0 to 2; no such filter, of either");
        EntryMasters x = new EntryMasters();
        noIndexAround("no filter at all", 0, -1, filter -> x.join(0, filter, filter));
        x.test(0, 0, 0);
        x.test(0, 1, 0);
        noArgumentAround("kind", 0, 2, kind -> x.join(kind, 0, 1));
        for (int kind = 0; kind < 3; kind++) {
            int its = kind;
            noIndexAround("first of " + kind, 0, 1, first -> x.join(its, first, 0));
            noIndexAround("second of " + kind, 0, 1, second -> x.join(its, 0, second));
        }
        Check.index("the number that it would get", () -> x.join(0, 2, 2));
        x.set(0, 0, 0, 4);
        Check.due("both", x.join(0, 0, 1), 2);
        Check.due("either", x.join(1, 0, 1), 3);
        Check.due("not the first", x.join(2, 0, 1), 4);
        Check.due("not the first, whatever the second", x.join(2, 0, 4), 5);
        Check.due("with itself", x.join(0, 5, 5), 6);
        int[] want = {1, 0, 0, 1, 0, 0, 0};
        for (int filter = 0; filter < 7; filter++) {
            Check.due("filter " + filter, x.holds(0, filter, 0), want[filter]);
        }
        noIndexAround("first of seven", 0, 6, first -> x.join(1, first, 6));
    }

    private static void filtersFull() {
        Check.part("promises 20 and 21: IllegalStateException if there are 20 filters");
        EntryMasters x = new EntryMasters();
        for (int filter = 0; filter < 19; filter++) {
            Check.due("test", x.test(1, filter % 4, filter % 10), filter);
        }
        Check.due("the 20th by join", x.join(2, 18, 18), 19);
        Check.state("a test too many", () -> x.test(0, 0, 0));
        for (int kind = 0; kind < 3; kind++) {
            int its = kind;
            Check.state("a join too many", () -> x.join(its, 19, 0));
            Check.state("a test too many", () -> x.test(its, 3, 9));
        }
        x.set(0, 0, 2, 8);
        for (int filter = 0; filter < 20; filter++) {
            int want = filter == 18 ? 1 : 0;
            Check.due("filter " + filter, x.holds(0, filter, 0), want);
        }
        EntryMasters y = new EntryMasters();
        y.test(2, 0, 5);
        for (int filter = 1; filter < 19; filter++) {
            y.join(filter % 2, filter - 1, filter - 1);
        }
        Check.due("the 20th by test", y.test(0, 1, 0), 19);
        Check.state("a join too many", () -> y.join(0, 0, 0));
        y.set(1, 0, 0, 5);
        Check.due("each of the one before, twice", y.holds(1, 18, 0), 1);
        Check.due("and of the lost one", y.holds(1, 18, 1), 0);
    }

    private static void holdsBounds() {
        Check.part("promise 22: master, filter and an entry that is there");
        EntryMasters x = chain(0, 0, 39);
        x.set(0, 40, 3, 9);
        for (int filter = 0; filter < 20; filter++) {
            x.test(1, 3, filter / 2);
        }
        noIndexAround("master", 0, 1, master -> x.holds(master, 0, 0));
        noIndexAround("filter", 0, 19, filter -> x.holds(0, filter, 0));
        noIndexAround("entry", 0, 40, entry -> x.holds(0, 0, entry));
        noIndexAround("entry of the other", 0, 1, entry -> x.holds(1, 0, entry));
        for (int filter = 0; filter < 20; filter++) {
            Check.due("filter " + filter, x.holds(0, filter, 40), filter >= 18 ? 1 : 0);
            Check.due("of the root", x.holds(0, filter, 0), 0);
            Check.due("at the other", x.holds(1, filter, 1), 0);
        }
        EntryMasters y = new EntryMasters();
        y.setClass(0, 0, 14);
        y.test(0, 0, 0);
        y.test(0, 1, 0);
        Check.due("NONE if it is unknown", y.holds(0, 0, 1), NONE);
        Check.due("0 if it is false", y.holds(0, 1, 1), 0);
        y.set(0, 1, 1, 0);
        Check.due("1 if it is true", y.holds(0, 1, 1), 1);
    }

    // ---- promise 23

    private static void searchBounds() {
        Check.part("promise 23: master, user, base, scope, filter, and place from 0");
        EntryMasters x = new EntryMasters();
        x.add(0, 0, 5, 0);
        int every = Ask.anything(x);
        noIndexAround("master", 0, 1, master -> x.search(master, 0, 0, ALL, every, 0));
        noIndexAround("user", 0, 2, user -> x.search(0, user, 0, ALL, every, 0));
        noIndexAround("base", 0, 2, base -> x.search(0, 0, base, ALL, every, 0));
        noIndexAround("base of the other", 0, 1, base -> x.search(1, 0, base, ALL, every, 0));
        noIndexAround("filter", 0, every, filter -> x.search(0, 0, 0, ALL, filter, 0));
        noArgumentAround("scope", BASE, ALL, scope -> x.search(0, 0, 0, scope, every, 0));
        for (int scope = BASE; scope <= ALL; scope++) {
            int its = scope;
            Check.index("place -1", () -> x.search(0, 0, 0, its, every, -1));
            Check.index("place far below", () -> x.search(0, 0, 0, its, every, LEAST));
            for (int place : new int[] {3, 41, 42, 43, GREATEST - 1, GREATEST}) {
                Check.due("not so much", x.search(0, 0, 0, its, every, place), NONE);
            }
        }
        Check.due("BASE 0", x.search(0, 0, 0, BASE, every, 0), 0);
        Check.due("BASE 1", x.search(0, 0, 0, BASE, every, 1), NONE);
        Check.due("ONE 0", x.search(0, 0, 0, ONE, every, 0), 2);
        Check.due("ONE 1", x.search(0, 0, 0, ONE, every, 1), 1);
        Check.due("ONE 2", x.search(0, 0, 0, ONE, every, 2), NONE);
        Check.due("ALL 0", x.search(0, 0, 0, ALL, every, 0), 0);
        Check.due("ALL 2", x.search(0, 0, 0, ALL, every, 2), 1);
        Check.due("ALL of the greatest", x.search(0, 2, 2, ALL, every, 0), 2);
    }

    private static void searchEmpty() {
        Check.part("promise 23: NONE if not so much is found");
        EntryMasters x = new EntryMasters();
        x.setClass(1, 0, 0);
        x.add(0, 0, 5, 1);
        int present = x.test(0, 0, 0);
        int absent = x.join(2, present, present);
        for (int scope = BASE; scope <= ALL; scope++) {
            Check.due("false everywhere " + scope, x.search(0, 0, 0, scope, present, 0), NONE);
            Check.due("unknown " + scope, x.search(0, 0, 2, scope, absent, 0), NONE);
        }
        Check.due("nothing under it", x.search(0, 0, 1, ONE, absent, 0), NONE);
        Check.due("it alone", Ask.found(x, 0, 0, 1, ALL, absent), "1");
        x.setRight(1, 0, DENY);
        Check.due("denied", x.search(0, 1, 0, ALL, absent, 0), NONE);
    }

    private static void searchFull() {
        Check.part("promise 23: 42 entries");
        EntryMasters deep = chain(0, 1, 40);
        int every = Ask.anything(deep);
        Check.due("as deep as can be", Ask.found(deep, 0, 0, 0, ALL, every), numbers(0, 41));
        Check.due("place 41", deep.search(0, 0, 0, ALL, every, 41), 41);
        Check.due("place 42", deep.search(0, 0, 0, ALL, every, 42), NONE);
        Check.due("the deepest", Ask.found(deep, 0, 0, 41, ALL, every), "41");
        Check.due("one level of the deepest", Ask.found(deep, 0, 0, 41, ONE, every), "");
        deep.setRight(0, 0, DENY);
        Check.due("the right from far above", deep.search(0, 0, 41, BASE, every, 0), NONE);

        EntryMasters wide = new EntryMasters();
        for (int i = 0; i < 40; i++) {
            wide.add(1, 0, 39 - i, 0);
        }
        int any = Ask.anything(wide);
        Check.due("ONE, place 40", wide.search(1, 0, 0, ONE, any, 40), 1);
        Check.due("ONE, place 41", wide.search(1, 0, 0, ONE, any, 41), NONE);
        for (int place = 0; place < 40; place++) {
            Check.due("as wide as can be", wide.search(1, 0, 0, ONE, any, place), 41 - place);
        }
        Check.due("ALL, place 1", wide.search(1, 0, 0, ALL, any, 1), 41);
        Check.due("ALL, place 41", wide.search(1, 0, 0, ALL, any, 41), 1);

        EntryMasters back = chain(0, 0, 39);
        int last = back.add(0, 0, 98, 0);
        int each = Ask.anything(back);
        Check.due("back up from the deepest", Ask.found(back, 0, 0, 0, ALL, each), "0 "
                + numbers(2, 40) + " " + last + " 1");
    }
}
