/**
 * A test for each sentence of the document's "Terms", named by the sentence. (The one about calls
 * that throw has RefusalTest.)
 */
public final class TermsTest {
    private static final int NONE = EntryMasters.NONE;
    private static final int ALLOW = EntryMasters.ALLOW, DENY = EntryMasters.DENY;
    private static final int BASE = EntryMasters.BASE;
    private static final int ONE = EntryMasters.ONE;
    private static final int ALL = EntryMasters.ALL;

    public static void main(String[] args) {
        sameChangesSameTree();
        sameChangesSameTreeByHand();
        twoAreAlwaysThere();
        neverMovedOrDeleted();
        numbersOfEntries();
        whatAnEntryHas();
        labelsThatAreAlike();
        noneIsLikeNoLabel();
        firstTwoAtFirst();
        classesAsBits();
        fortyChanges();
        numbersOfChanges();
        timeOfChange();
        timeByWhatIsKnown();
        stampsByTimeFirst();
        stampsByMasterThen();
        whatAMasterKnows();
        doneByRisingStamps();
        addingUnderParent();
        addingWithoutParent();
        addingUnderDeletedParent();
        settingWhatIsThere();
        settingWhatIsNotThere();
        movingWhatIsThere();
        movingWhatIsNotThere();
        movingBelowItself();
        movingToNoParent();
        deletingWhatIsThere();
        deletingWhatIsNotThere();
        deletingByRisingNumbers();
        clashByAdding();
        clashByMoving();
        clashByDeleting();
        clashOnlyThen();
        noClashElsewhere();
        rightThatCounts();
        rightsOfNumbers();
        referralsOfNumbers();
        filtersByNumbers();
        testsByThirdTruth();
        bothAndEitherAndNot();
        joinsOfJoins();
        scopes();
        orderOfSearch();
        orderOfThoseWithoutLabel();
        referralsAreNotLookedAt();
        foundByFilterAndRight();
        Check.finish("TermsTest");
    }

    // ---- masters

    /** A run with clashes, a ring, a parent that goes and one that comes late. */
    private static EntryMasters torn() {
        EntryMasters x = new EntryMasters();
        x.add(0, 0, 1, 0);
        x.carry(0, 1);
        x.add(0, 2, 5, 0);
        x.add(1, 2, 55, 0);
        x.add(1, 0, 2, 0);
        x.move(0, 2, 1, 9);
        x.move(1, 2, 5, 3);
        x.delete(1, 4);
        x.set(0, 3, 1, 8);
        return x;
    }

    private static void carryAll(EntryMasters x, int master) {
        for (int change = 0; change < x.changes(); change++) {
            x.carry(change, master);
        }
    }

    private static void sameChangesSameTree() {
        Check.part("Two masters that know the same changes hold the same tree");
        EntryMasters first = torn();
        carryAll(first, 0);
        String want = Ask.tree(first, 0);
        permute(new int[] {1, 2, 3, 4, 5, 6, 7}, 0, want);
    }

    private static void permute(int[] order, int from, String want) {
        if (from == order.length) {
            carryInOrder(order, want);
            return;
        }
        for (int i = from; i < order.length; i++) {
            swap(order, from, i);
            permute(order, from + 1, want);
            swap(order, from, i);
        }
    }

    private static void swap(int[] order, int i, int j) {
        int kept = order[i];
        order[i] = order[j];
        order[j] = kept;
    }

    private static void carryInOrder(int[] order, String want) {
        EntryMasters x = torn();
        for (int change : order) {
            x.carry(change, 1);
            x.carry(change, 0);
        }
        Check.due("second", Ask.tree(x, 1), want);
        Check.due("first", Ask.tree(x, 0), want);
        Check.due("alike", x.areAlike(), true);
    }

    private static void sameChangesSameTreeByHand() {
        Check.part("Two masters that know the same changes hold the same tree, by hand");
        EntryMasters x = torn();
        Check.due("times", x.timeOf(1) * 1000 + x.timeOf(2) * 100 + x.timeOf(4) * 10 + x.timeOf(5), 2234);
        carryAll(x, 0);
        // Stamps: 2.0 adds 3, 2.1 adds 4 with a clash, 3.0 moves 2 under 1, 3.1 adds 5, 4.0 sets,
        // 4.1 moves 2 under 5, 5.1 deletes 4.
        Check.due("tree", Ask.tree(x, 0), "5 of 8 [0 under -1 as -1: -1 -1 -1 -1]"
                + " [1 under 0 as 99: -1 -1 -1 -1] [2 under 5 as 3: -1 -1 -1 -1]"
                + " [3 under 2 as 5: -1 8 -1 -1] [5 under 0 as 2: -1 -1 -1 -1]");
    }

    // ---- entries

    private static void twoAreAlwaysThere() {
        Check.part("Two entries are always there: the root, 0, and the lost one, 1,"
                + " which lies under the root with the label 99");
        EntryMasters x = new EntryMasters();
        for (int call = 0; call < 3; call++) {
            for (int master = 0; master < 2; master++) {
                Check.due("root", x.isThere(master, 0), true);
                Check.due("lost one", x.isThere(master, 1), true);
                Check.due("its parent", x.parentOf(master, 1), 0);
                Check.due("its label", x.labelOf(master, 1), 99);
                Check.due("found by it", x.find(master, 0, 99), 1);
            }
            x.add(1, call == 0 ? 0 : 1, call, 0);
            x.carry(call, 0);
        }
    }

    private static void neverMovedOrDeleted() {
        Check.part("and is never moved or deleted");
        EntryMasters x = new EntryMasters();
        x.add(0, 0, 10, 0);
        for (int entry = 0; entry < 2; entry++) {
            for (int master = 0; master < 2; master++) {
                int at = master;
                int fixed = entry;
                Check.state("delete", () -> x.delete(at, fixed));
                Check.state("move", () -> x.move(at, fixed, 1 - fixed, 5));
                Check.state("rename", () -> x.move(at, fixed, 0, 98));
            }
        }
        Check.state("the lost one under another", () -> x.move(0, 1, 2, 5));
        Check.state("the root under another", () -> x.move(0, 0, 2, 5));
        Check.due("changes", x.changes(), 1);
    }

    private static void numbersOfEntries() {
        Check.part("Each other entry has the number of the change that added it, plus 2");
        EntryMasters x = new EntryMasters();
        Check.due("change 0", x.add(0, 0, 1, 0), 2);
        x.set(0, 2, 0, 1);
        Check.due("change 2", x.add(1, 0, 1, 0), 4);
        x.move(0, 2, 0, 3);
        x.delete(1, 4);
        Check.due("change 5", x.add(0, 0, 1, 0), 7);
        Check.due("no other is there", x.isThere(0, 3) || x.isThere(0, 5) || x.isThere(0, 6), false);
        carryAll(x, 0);
        Check.due("nor by carrying", x.entries(0), 4);
    }

    private static void whatAnEntryHas() {
        Check.part("An entry has a parent, a label (0 to 99, or NONE), a class (0 to 2),"
                + " and for each of the attributes 0 to 3 a value, 0 to 9, or NONE");
        for (int its = 0; its < 3; its++) {
            EntryMasters x = new EntryMasters();
            x.setClass(its, 4, 4);
            x.setClass((its + 1) % 3, 0, 0);
            x.setClass((its + 2) % 3, 0, 0);
            int filter = x.test(0, 2, 0);
            int parent = x.add(0, 1, 50, its);
            int entry = x.add(0, parent, 99, its);
            Check.due("parent", x.parentOf(0, entry), parent);
            Check.due("label", x.labelOf(0, entry), 99);
            Check.due("class", x.holds(0, filter, entry), 0);
            Check.due("class too", x.isWhole(0, entry), false);
            for (int value = NONE; value < 10; value++) {
                x.set(0, entry, 2, value);
                Check.due("value", x.value(0, entry, 2), value);
                Check.due("of this entry alone", x.value(0, parent, 2), NONE);
            }
        }
    }

    private static void labelsThatAreAlike() {
        Check.part("Two labels are alike if they leave the same rest when divided by 50");
        for (int label = 0; label < 100; label++) {
            EntryMasters x = new EntryMasters();
            int home = x.add(0, 0, 0, 0);
            int entry = x.add(0, home, label, 0);
            for (int other = 0; other < 100; other++) {
                boolean areAlike = label == other || label == other + 50 || label + 50 == other;
                Check.due(label + " and " + other, x.find(0, home, other), areAlike ? entry : NONE);
            }
        }
    }

    /** The entry 3 is under the root without a label at both masters. */
    private static EntryMasters withoutLabel() {
        EntryMasters x = new EntryMasters();
        x.add(0, 0, 1, 0);
        x.add(1, 0, 51, 0);
        x.carry(0, 1);
        x.carry(1, 0);
        return x;
    }

    private static void noneIsLikeNoLabel() {
        Check.part("NONE is like no label");
        EntryMasters x = withoutLabel();
        Check.due("has none", x.labelOf(0, 3), NONE);
        for (int label = 0; label < 100; label++) {
            int want = label % 50 == 1 ? 2 : label % 50 == 49 ? 1 : NONE;
            Check.due("found by " + label, x.find(0, 0, label), want);
        }
        x.delete(0, 2);
        Check.due("the label is free then", x.find(0, 0, 51), NONE);
        Check.due("and can be taken", x.add(0, 0, 51, 0), 5);
        Check.due("the other one has none still", x.labelOf(0, 3), NONE);
        EntryMasters y = withoutLabel();
        y.add(0, 0, 2, 0);
        y.add(1, 0, 52, 0);
        carryAll(y, 0);
        Check.due("two without a label", y.labelOf(0, 3) + y.labelOf(0, 5), NONE + NONE);
    }

    private static void firstTwoAtFirst() {
        Check.part("The root has no label; the root and the lost one have the class 0, and no values at first");
        for (int its = 0; its < 3; its++) {
            EntryMasters x = new EntryMasters();
            x.setClass(its, 2, 2);
            for (int master = 0; master < 2; master++) {
                for (int entry = 0; entry < 2; entry++) {
                    int at = master;
                    int fixed = entry;
                    Check.due("whole", x.isWhole(master, entry), its != 0);
                    for (int a = 0; a < 4; a++) {
                        Check.due("no value", x.value(master, entry, a), NONE);
                    }
                    String want = its == 0 ? "IllegalStateException" : "nothing thrown";
                    Check.due("class", Check.outcome(() -> x.set(at, fixed, 0, 1)), want);
                }
                Check.due("no label", x.labelOf(master, 0), NONE);
            }
        }
    }

    // ---- classes

    private static void classesAsBits() {
        Check.part("Each class has a set of needed attributes and a set of allowed ones, as bits;"
                + " what is needed is allowed, too");
        for (int its = 0; its < 3; its++) {
            for (int needed = 0; needed < 16; needed++) {
                for (int allowed = 0; allowed < 16; allowed++) {
                    classAsBits(its, needed, allowed);
                }
            }
        }
    }

    private static void classAsBits(int its, int needed, int allowed) {
        EntryMasters x = new EntryMasters();
        x.setClass(its, 15, 15);
        x.setClass(its, needed, allowed);
        int entry = x.add(0, 0, 1, its);
        int other = x.add(0, 0, 2, (its + 1) % 3);
        int missing = needed;
        for (int a = 0; a < 4; a++) {
            String what = needed + " and " + allowed + ", attribute " + a;
            boolean isAllowed = ((needed | allowed) & 1 << a) != 0;
            int filter = x.test(0, a, 0);
            Check.due("whole: " + what, x.isWhole(0, entry), missing == 0);
            Check.due("known: " + what, x.holds(0, filter, entry), isAllowed ? 0 : NONE);
            Check.due("of another class: " + what, x.holds(0, filter, other), 0);
            int at = a;
            String want = isAllowed ? "nothing thrown" : "IllegalStateException";
            Check.due("set: " + what, Check.outcome(() -> x.set(0, entry, at, 0)), want);
            missing &= ~(1 << a);
        }
        Check.due("whole at last", x.isWhole(0, entry), true);
        Check.due("another class", x.isWhole(0, other), true);
    }

    // ---- changes

    private static void fortyChanges() {
        Check.part("There can be 40");
        EntryMasters x = new EntryMasters();
        for (int i = 0; i < 10; i++) {
            int entry = x.add(i % 2, 0, 5, 0);
            x.set(i % 2, entry, 0, 1);
            x.move(i % 2, entry, 1, 5);
            Check.due("changes", x.changes(), 4 * i + 3);
            x.delete(i % 2, entry);
        }
        Check.due("changes", x.changes(), 40);
        for (int master = 0; master < 2; master++) {
            int at = master;
            Check.state("add", () -> x.add(at, 0, 5, 0));
            Check.state("set", () -> x.set(at, 0, 0, 1));
            Check.state("move", () -> x.move(at, 1, 0, 1));
            Check.state("delete", () -> x.delete(at, 1));
        }
        carryAll(x, 0);
        carryAll(x, 1);
        Check.state("carrying makes no room", () -> x.set(0, 0, 0, 1));
        Check.due("all are gone again", x.areAlike() && x.entries(0) == 2, true);
    }

    private static void numbersOfChanges() {
        Check.part("numbered from 0 in the order in which they are made");
        EntryMasters x = new EntryMasters();
        for (int i = 0; i < 10; i++) {
            Check.due("the next number", x.changes(), i);
            x.set(i / 3 % 2, i % 2, 0, i);
        }
        for (int change = 9; change >= 0; change--) {
            EntryMasters y = new EntryMasters();
            for (int i = 0; i < 10; i++) {
                y.set(0, 0, 0, i);
            }
            y.carry(change, 1);
            Check.due("change " + change, y.value(1, 0, 0), change);
        }
    }

    private static void timeOfChange() {
        Check.part("a time, which is 1 more than the greatest time of all changes that the master knows"
                + " (1 for the first one)");
        EntryMasters x = new EntryMasters();
        for (int i = 0; i < 6; i++) {
            x.set(0, 0, 0, 1);
            Check.due("at the first", x.timeOf(i), i + 1);
        }
        x.set(1, 0, 0, 1);
        Check.due("the first one of the second", x.timeOf(6), 1);
        x.set(1, 0, 0, 1);
        Check.due("the next", x.timeOf(7), 2);
        x.carry(4, 1);
        x.set(1, 0, 0, 1);
        Check.due("behind what was carried", x.timeOf(8), 6);
        x.carry(8, 0);
        x.carry(5, 1);
        x.set(0, 0, 0, 1);
        Check.due("of the same time as its own", x.timeOf(9), 7);
        x.set(1, 0, 0, 1);
        Check.due("of the same time as its own too", x.timeOf(10), 7);
    }

    private static void timeByWhatIsKnown() {
        Check.part("the greatest time of all changes that the master knows, not the last one's");
        EntryMasters x = new EntryMasters();
        for (int i = 0; i < 5; i++) {
            x.set(0, 0, 0, 1);
        }
        x.carry(3, 1);
        x.carry(0, 1);
        x.set(1, 0, 0, 1);
        Check.due("4 and 1 are known", x.timeOf(5), 5);
        x.carry(1, 1);
        x.set(1, 0, 0, 1);
        Check.due("its own count too", x.timeOf(6), 6);
        Check.due("times stay", x.timeOf(3) * 10 + x.timeOf(0), 41);
        EntryMasters y = new EntryMasters();
        y.set(0, 0, 0, 1);
        Check.state("refused", () -> y.delete(0, 0));
        y.set(0, 0, 0, 1);
        Check.due("a refused call has no time", y.timeOf(1), 2);
    }

    private static void stampsByTimeFirst() {
        Check.part("stamps are compared by the time");
        EntryMasters x = new EntryMasters();
        x.set(1, 0, 0, 1);
        x.set(0, 0, 0, 2);
        x.set(0, 0, 0, 3);
        x.carry(1, 1);
        Check.due("1.0 is behind 1.1", x.value(1, 0, 0), 1);
        x.carry(2, 1);
        Check.due("2.0 is ahead of 1.1", x.value(1, 0, 0), 3);
        x.carry(0, 0);
        Check.due("1.1 is behind 2.0", x.value(0, 0, 0), 3);
        x.set(1, 0, 0, 4);
        x.carry(3, 0);
        Check.due("3.1", x.value(0, 0, 0), 4);
    }

    private static void stampsByMasterThen() {
        Check.part("then by the master");
        for (int later = 0; later < 2; later++) {
            EntryMasters x = new EntryMasters();
            x.set(1 - later, 0, 0, 1 - later);
            x.set(later, 0, 0, later);
            x.carry(0, later);
            Check.due("at the later one", x.value(later, 0, 0), 1);
            x.carry(1, 1 - later);
            Check.due("at the earlier one", x.value(1 - later, 0, 0), 1);
        }
        EntryMasters y = new EntryMasters();
        for (int i = 0; i < 10; i++) {
            y.set(0, 0, 0, i);
        }
        for (int i = 0; i < 10; i++) {
            y.set(1, 0, 0, 9 - i);
        }
        for (int time = 1; time <= 10; time++) {
            y.carry(time - 1, 1);
            y.carry(time + 9, 0);
            Check.due("the greatest stays at the first", y.value(0, 0, 0), time == 10 ? 0 : 9);
            Check.due("and at the second", y.value(1, 0, 0), 0);
        }
    }

    private static void whatAMasterKnows() {
        Check.part("A master knows the changes that were made at it, and those that were carried to it");
        EntryMasters x = new EntryMasters();
        x.add(0, 0, 1, 0);
        x.add(1, 0, 2, 0);
        x.add(0, 2, 1, 0);
        Check.due("made at the first", x.isThere(0, 2) && x.isThere(0, 4), true);
        Check.due("made at the other", x.isThere(0, 3) || x.isThere(1, 2) || x.isThere(1, 4), false);
        Check.due("not known", x.carry(0, 1), true);
        Check.due("carried alone", x.isThere(1, 2) && !x.isThere(1, 4), true);
        Check.due("what was carried is known", x.carry(0, 1), false);
        Check.due("what was made is known", x.carry(0, 0), false);
        x.set(1, 2, 0, 7);
        Check.due("not at the first", x.value(0, 2, 0), NONE);
        Check.due("what it does not know does not go along", x.carry(3, 0) && !x.isThere(0, 3), true);
        Check.due("but this one", x.value(0, 2, 0), 7);
    }

    private static void doneByRisingStamps() {
        Check.part("by doing the changes that it knows by rising stamps, beginning with the root and the lost one");
        EntryMasters x = new EntryMasters();
        int entry = x.add(0, 0, 1, 0);
        x.set(0, entry, 0, 1);
        x.move(0, entry, 1, 2);
        x.set(0, entry, 0, 2);
        x.delete(0, entry);
        int[][] want = {{0, 1, NONE}, {1, 2, NONE}, {1, 2, 2}};
        int[] order = {0, 2, 3};
        for (int i = 0; i < 3; i++) {
            x.carry(order[i], 1);
            Check.due("parent", x.parentOf(1, entry), want[i][0]);
            Check.due("label", x.labelOf(1, entry), want[i][1]);
            Check.due("value", x.value(1, entry, 0), want[i][2]);
        }
        x.carry(1, 1);
        Check.due("an earlier one is done earlier", x.value(1, entry, 0), 2);
        x.carry(4, 1);
        Check.due("as new", Ask.tree(x, 1), "2 of 5 [0 under -1 as -1: -1 -1 -1 -1] [1 under 0 as 99: -1 -1 -1 -1]");
    }

    // ---- adding, setting

    private static void addingUnderParent() {
        Check.part("Adding: the entry is there, without values, under its parent");
        EntryMasters x = new EntryMasters();
        x.set(0, 0, 0, 5);
        x.add(0, 0, 1, 0);
        x.set(0, 3, 1, 6);
        x.add(0, 3, 2, 0);
        x.add(0, 1, 3, 0);
        carryAll(x, 1);
        for (int master = 0; master < 2; master++) {
            Check.due("tree " + master, Ask.tree(x, master), "5 of 5 [0 under -1 as -1: 5 -1 -1 -1]"
                    + " [1 under 0 as 99: -1 -1 -1 -1] [3 under 0 as 1: -1 6 -1 -1]"
                    + " [5 under 3 as 2: -1 -1 -1 -1] [6 under 1 as 3: -1 -1 -1 -1]");
        }
    }

    private static void addingWithoutParent() {
        Check.part("Adding: if that is not there, under the lost one");
        EntryMasters x = new EntryMasters();
        x.add(0, 0, 1, 0);
        x.add(0, 2, 2, 0);
        x.add(0, 3, 3, 0);
        x.carry(2, 1);
        Check.due("no parent yet", x.parentOf(1, 4), 1);
        Check.due("its label", x.labelOf(1, 4), 3);
        x.carry(1, 1);
        Check.due("its parent is there", x.parentOf(1, 4), 3);
        Check.due("which has no parent yet", x.parentOf(1, 3), 1);
        x.carry(0, 1);
        Check.due("all are there", x.areAlike(), true);
    }

    private static void addingUnderDeletedParent() {
        Check.part("Adding: if that is not there any more, under the lost one");
        EntryMasters x = new EntryMasters();
        x.add(0, 0, 1, 0);
        x.carry(0, 1);
        x.delete(0, 2);
        x.set(1, 0, 0, 1);
        x.set(1, 0, 0, 2);
        x.add(1, 2, 30, 0);
        Check.due("there at the second", x.parentOf(1, 6), 2);
        carryAll(x, 0);
        Check.due("under the lost one", x.parentOf(0, 6), 1);
        Check.due("with its label", x.labelOf(0, 6), 30);
        Check.due("entries", x.entries(0), 3);
    }

    private static void settingWhatIsThere() {
        Check.part("Setting: the attribute gets the value, if the entry is there and its class allows the attribute");
        EntryMasters x = new EntryMasters();
        x.setClass(1, 0, 2);
        x.add(0, 0, 1, 1);
        x.set(0, 2, 1, 7);
        x.set(0, 0, 3, 0);
        carryAll(x, 1);
        Check.due("set", x.value(1, 2, 1), 7);
        Check.due("another attribute", x.value(1, 2, 3), NONE);
        Check.due("root", x.value(1, 0, 3), 0);
        Check.due("root, another attribute", x.value(1, 0, 1), NONE);
        Check.state("not allowed", () -> x.set(1, 2, 3, 0));
        x.set(1, 2, 1, NONE);
        x.carry(3, 0);
        Check.due("to none", x.value(0, 2, 1), NONE);
    }

    private static void settingWhatIsNotThere() {
        Check.part("Setting: otherwise nothing");
        EntryMasters x = new EntryMasters();
        x.add(0, 0, 1, 0);
        x.set(0, 2, 0, 5);
        String before = Ask.tree(x, 1);
        x.carry(1, 1);
        Check.due("not there yet", Ask.tree(x, 1), before);
        EntryMasters y = new EntryMasters();
        y.add(0, 0, 1, 0);
        y.carry(0, 1);
        y.set(1, 0, 1, 1);
        y.set(1, 2, 0, 5);
        y.delete(0, 2);
        carryAll(y, 0);
        carryAll(y, 1);
        Check.due("not there any more", Ask.tree(y, 1),
                "2 of 4 [0 under -1 as -1: -1 1 -1 -1] [1 under 0 as 99: -1 -1 -1 -1]");
        Check.due("alike", y.areAlike(), true);
    }

    // ---- moving

    private static void movingWhatIsThere() {
        Check.part("Moving: the entry gets the new label and the new parent");
        EntryMasters x = new EntryMasters();
        x.add(0, 0, 1, 0);
        x.add(0, 0, 2, 0);
        x.add(0, 2, 3, 0);
        x.set(0, 2, 0, 4);
        x.move(0, 2, 3, 7);
        carryAll(x, 1);
        for (int master = 0; master < 2; master++) {
            Check.due("tree " + master, Ask.tree(x, master), "5 of 5 [0 under -1 as -1: -1 -1 -1 -1]"
                    + " [1 under 0 as 99: -1 -1 -1 -1] [2 under 3 as 7: 4 -1 -1 -1]"
                    + " [3 under 0 as 2: -1 -1 -1 -1] [4 under 2 as 3: -1 -1 -1 -1]");
        }
    }

    private static void movingWhatIsNotThere() {
        Check.part("Moving: if the entry is there; otherwise nothing");
        EntryMasters x = new EntryMasters();
        x.add(0, 0, 1, 0);
        x.move(0, 2, 1, 7);
        String before = Ask.tree(x, 1);
        x.carry(1, 1);
        Check.due("not there yet", Ask.tree(x, 1), before);
        x.add(1, 1, 7, 0);
        Check.due("it takes no label", x.labelOf(1, 4), 7);
        EntryMasters y = new EntryMasters();
        y.add(0, 0, 1, 0);
        y.carry(0, 1);
        y.delete(0, 2);
        y.set(1, 0, 0, 1);
        y.move(1, 2, 1, 7);
        y.carry(1, 1);
        Check.due("not there any more", y.isThere(1, 2), false);
        Check.due("entries", y.entries(1), 2);
        Check.due("nothing under the lost one", y.find(1, 1, 7), NONE);
    }

    private static void movingBelowItself() {
        Check.part("Moving: and the new parent is neither the entry itself nor below it; otherwise nothing");
        EntryMasters x = new EntryMasters();
        x.add(0, 0, 1, 0);
        x.add(0, 0, 2, 0);
        x.add(0, 3, 3, 0);
        carryAll(x, 1);
        x.move(0, 2, 4, 5);
        x.move(1, 3, 2, 6);
        x.carry(4, 0);
        x.carry(3, 1);
        for (int master = 0; master < 2; master++) {
            Check.due("the earlier move", x.parentOf(master, 2), 4);
            Check.due("its label", x.labelOf(master, 2), 5);
            Check.due("the later one has no parent", x.parentOf(master, 3), 0);
            Check.due("nor a label", x.labelOf(master, 3), 2);
            Check.due("what is between", x.parentOf(master, 4), 3);
        }
        EntryMasters y = new EntryMasters();
        y.add(0, 0, 1, 0);
        y.add(0, 0, 2, 0);
        carryAll(y, 1);
        y.move(1, 2, 3, 5);
        y.move(0, 3, 2, 6);
        carryAll(y, 0);
        carryAll(y, 1);
        Check.due("the stamp decides", y.parentOf(0, 3), 2);
        Check.due("not what was made first", y.parentOf(0, 2), 0);
        Check.due("alike", y.areAlike(), true);
    }

    private static void movingToNoParent() {
        Check.part("Moving: if the new parent is not there, it gets the lost one as its parent");
        EntryMasters x = new EntryMasters();
        x.add(0, 0, 1, 0);
        x.add(0, 0, 2, 0);
        x.add(0, 2, 3, 0);
        x.carry(0, 1);
        x.carry(2, 1);
        x.move(0, 2, 3, 5);
        x.carry(3, 1);
        Check.due("the parent is not there yet", x.parentOf(1, 2), 1);
        Check.due("the new label", x.labelOf(1, 2), 5);
        Check.due("what is below goes along", x.parentOf(1, 4), 2);
        x.carry(1, 1);
        Check.due("the parent is there", x.parentOf(1, 2), 3);
        EntryMasters y = new EntryMasters();
        y.add(0, 0, 1, 0);
        y.add(0, 0, 2, 0);
        carryAll(y, 1);
        y.delete(0, 3);
        y.move(1, 2, 3, 5);
        carryAll(y, 0);
        Check.due("the parent is not there any more", y.parentOf(0, 2), 1);
        Check.due("the new label", y.labelOf(0, 2), 5);
    }

    // ---- deleting

    private static void deletingWhatIsThere() {
        Check.part("Deleting: it is not any more, and each entry whose parent it was gets the lost one as its parent");
        EntryMasters x = new EntryMasters();
        x.add(0, 0, 1, 0);
        x.carry(0, 1);
        x.add(1, 2, 10, 0);
        x.add(1, 3, 10, 0);
        x.add(1, 2, 20, 0);
        x.set(0, 0, 0, 0);
        x.set(0, 0, 0, 1);
        x.set(0, 0, 0, 2);
        x.delete(0, 2);
        carryAll(x, 0);
        carryAll(x, 1);
        for (int master = 0; master < 2; master++) {
            Check.due("tree " + master, Ask.tree(x, master), "5 of 8 [0 under -1 as -1: 2 -1 -1 -1]"
                    + " [1 under 0 as 99: -1 -1 -1 -1] [3 under 1 as 10: -1 -1 -1 -1]"
                    + " [4 under 3 as 10: -1 -1 -1 -1] [5 under 1 as 20: -1 -1 -1 -1]");
        }
    }

    private static void deletingWhatIsNotThere() {
        Check.part("Deleting: if the entry is there");
        EntryMasters x = new EntryMasters();
        x.add(0, 0, 1, 0);
        x.add(0, 0, 2, 0);
        x.delete(0, 3);
        String before = Ask.tree(x, 1);
        x.carry(2, 1);
        Check.due("not there yet", Ask.tree(x, 1), before);
        EntryMasters y = new EntryMasters();
        y.add(0, 0, 1, 0);
        y.carry(0, 1);
        y.delete(0, 2);
        y.delete(1, 2);
        carryAll(y, 0);
        carryAll(y, 1);
        Check.due("deleted twice", y.entries(0) * 10 + y.entries(1), 22);
        Check.due("changes", y.changes(), 3);
    }

    /**
     * Entries under one parent never have labels that are alike, so they cannot clash with one
     * another under the lost one: what shows is that each of them clashes with those there before.
     */
    private static void deletingByRisingNumbers() {
        Check.part("by rising numbers");
        EntryMasters x = new EntryMasters();
        x.add(0, 0, 1, 0);
        x.add(0, 1, 9, 0);
        carryAll(x, 1);
        x.add(1, 2, 5, 0);
        x.add(1, 2, 59, 0);
        x.add(1, 2, 7, 0);
        fillTimes(x, 6);
        x.delete(0, 2);
        carryAll(x, 1);
        Check.due("the least number", x.labelOf(1, 4), 5);
        Check.due("clashes with the one that was there", x.labelOf(1, 5), NONE);
        Check.due("the greatest number", x.labelOf(1, 6), 7);
        for (int entry = 3; entry < 7; entry++) {
            Check.due("under the lost one", x.parentOf(1, entry), 1);
        }
    }

    private static void fillTimes(EntryMasters x, int many) {
        for (int i = 0; i < many; i++) {
            x.set(0, 0, 0, i);
        }
    }

    // ---- clashes

    private static void clashByAdding() {
        Check.part("Whenever an entry gets a parent by adding, its label becomes NONE");
        for (int label = 0; label < 100; label += 50) {
            EntryMasters x = new EntryMasters();
            x.add(0, 0, 1, 0);
            x.carry(0, 1);
            x.add(0, 2, label, 0);
            x.add(1, 2, 0, 0);
            carryAll(x, 0);
            carryAll(x, 1);
            for (int master = 0; master < 2; master++) {
                Check.due("the first keeps its label", x.labelOf(master, 3), label);
                Check.due("the second has none", x.labelOf(master, 4), NONE);
                Check.due("but is there", x.parentOf(master, 4), 2);
            }
        }
        EntryMasters y = new EntryMasters();
        y.add(0, 0, 1, 0);
        y.add(0, 2, 5, 0);
        y.add(1, 1, 55, 0);
        y.carry(1, 1);
        Check.due("under the lost one for want of a parent", y.labelOf(1, 3), NONE);
        Check.due("the one that was there", y.labelOf(1, 4), 55);
    }

    private static void clashByMoving() {
        Check.part("Whenever an entry gets a parent by moving, its label becomes NONE");
        EntryMasters x = new EntryMasters();
        x.add(0, 0, 1, 0);
        x.add(0, 0, 2, 0);
        x.add(0, 0, 3, 0);
        carryAll(x, 1);
        x.move(0, 2, 4, 9);
        x.move(1, 3, 4, 59);
        carryAll(x, 0);
        Check.due("the first keeps the new label", x.labelOf(0, 2), 9);
        Check.due("the second has none", x.labelOf(0, 3), NONE);
        Check.due("but the parent", x.parentOf(0, 3), 4);
        x.move(0, 3, 4, 60);
        Check.due("a label again by another move", x.labelOf(0, 3), 60);
        EntryMasters y = new EntryMasters();
        y.add(0, 0, 1, 0);
        y.add(0, 0, 2, 0);
        carryAll(y, 1);
        y.move(0, 2, 0, 9);
        y.move(1, 3, 0, 59);
        carryAll(y, 0);
        Check.due("renamed where it is", y.labelOf(0, 3), NONE);
        y.add(1, 1, 20, 0);
        y.move(1, 2, 1, 25);
        y.move(1, 2, 1, 75);
        Check.due("not with itself", y.labelOf(1, 2), 75);
    }

    private static void clashByDeleting() {
        Check.part("Whenever an entry gets a parent by deleting, its label becomes NONE");
        EntryMasters x = new EntryMasters();
        x.add(0, 0, 1, 0);
        x.add(0, 1, 10, 0);
        carryAll(x, 1);
        x.add(1, 2, 60, 0);
        fillTimes(x, 4);
        x.delete(0, 2);
        carryAll(x, 0);
        Check.due("under the lost one", x.parentOf(0, 4), 1);
        Check.due("has no label", x.labelOf(0, 4), NONE);
        Check.due("the one that was there has", x.labelOf(0, 3), 10);
        EntryMasters y = new EntryMasters();
        y.add(0, 1, 10, 0);
        y.carry(0, 1);
        y.add(1, 2, 60, 0);
        fillTimes(y, 4);
        y.delete(0, 2);
        carryAll(y, 0);
        Check.due("the deleted one itself is not there", y.labelOf(0, 3), 60);
    }

    private static void clashOnlyThen() {
        Check.part("and another entry under that parent has a label like its own then");
        EntryMasters x = withoutLabel();
        x.move(0, 2, 0, 2);
        Check.due("the other one's label does not come back", x.labelOf(0, 3), NONE);
        x.move(0, 3, 0, 1);
        Check.due("only by a move", x.labelOf(0, 3), 1);
        EntryMasters y = new EntryMasters();
        y.add(0, 0, 1, 0);
        y.move(0, 2, 0, 2);
        y.add(1, 0, 51, 0);
        y.set(1, 0, 0, 1);
        y.add(1, 0, 52, 0);
        carryAll(y, 1);
        Check.due("at 1.1 it had the label 1", y.labelOf(1, 4), NONE);
        Check.due("at 3.1 it had 2", y.labelOf(1, 6), NONE);
        Check.due("it has 2", y.labelOf(1, 2), 2);
        EntryMasters z = new EntryMasters();
        z.add(0, 0, 1, 0);
        z.delete(0, 2);
        z.set(1, 0, 0, 1);
        z.set(1, 0, 0, 2);
        z.add(1, 0, 51, 0);
        carryAll(z, 1);
        Check.due("was gone then", z.labelOf(1, 6), 51);
    }

    private static void noClashElsewhere() {
        Check.part("under that parent");
        EntryMasters x = new EntryMasters();
        x.add(0, 0, 1, 0);
        x.add(0, 2, 1, 0);
        x.add(1, 0, 2, 0);
        x.add(1, 4, 1, 0);
        x.add(1, 1, 1, 0);
        x.add(1, 5, 51, 0);
        carryAll(x, 0);
        for (int entry = 2; entry < 8; entry++) {
            int want = entry == 4 ? 2 : entry == 7 ? 51 : 1;
            Check.due("label of " + entry, x.labelOf(0, entry), want);
        }
        x.move(0, 5, 3, 51);
        x.move(0, 6, 5, 2);
        Check.due("the parent's own label", x.labelOf(0, 5), 51);
        Check.due("another one's", x.labelOf(0, 6), 2);
    }

    // ---- rights and referrals

    private static void rightThatCounts() {
        Check.part("the right that counts for an entry is its own, or that of the nearest entry above it"
                + " that has one; ALLOW, if none has");
        int[] rights = {NONE, ALLOW, DENY};
        for (int i = 0; i < 81; i++) {
            int[] chosen = {rights[i % 3], rights[i / 3 % 3], rights[i / 9 % 3], rights[i / 27]};
            EntryMasters x = new EntryMasters();
            x.add(0, 0, 1, 0);
            x.add(0, 2, 1, 0);
            x.add(0, 3, 1, 0);
            int every = Ask.anything(x);
            int[] line = {0, 2, 3, 4};
            int counts = ALLOW;
            for (int level = 0; level < 4; level++) {
                x.setRight(1, line[level], chosen[level]);
            }
            for (int level = 0; level < 4; level++) {
                counts = chosen[level] == NONE ? counts : chosen[level];
                int want = counts == ALLOW ? line[level] : NONE;
                Check.due("case " + i, x.search(0, 1, line[level], BASE, every, 0), want);
                Check.due("of another user", x.search(0, 0, line[level], BASE, every, 0), line[level]);
            }
        }
    }

    private static void rightsOfNumbers() {
        Check.part("Rights belong to numbers of entries, for both masters alike, whether or not they are there");
        EntryMasters x = new EntryMasters();
        int every = Ask.anything(x);
        x.setRight(0, 2, DENY);
        x.setRight(0, 3, ALLOW);
        Check.due("not there", Ask.found(x, 0, 0, 0, ALL, every), "0 1");
        x.add(0, 0, 1, 0);
        x.add(0, 2, 1, 0);
        Check.due("there", Ask.found(x, 0, 0, 0, ALL, every), "0 3 1");
        carryAll(x, 1);
        Check.due("at both", Ask.found(x, 1, 0, 0, ALL, every), "0 3 1");
        x.delete(0, 3);
        x.setRight(0, 3, DENY);
        Check.due("deleted at the first, denied at the second", Ask.found(x, 1, 0, 0, ALL, every), "0 1");
        x.add(0, 2, 1, 0);
        Check.due("a new one has its own", Ask.found(x, 0, 0, 0, ALL, every), "0 1");
        x.move(1, 3, 1, 1);
        x.setRight(0, 3, NONE);
        Check.due("by what is above it now", Ask.found(x, 1, 0, 0, ALL, every), "0 1 3");
        Check.due("no change by a right", x.changes(), 5);
    }

    private static void referralsOfNumbers() {
        Check.part("Referrals belong to numbers of entries, for both masters alike, whether or not they are there");
        EntryMasters x = new EntryMasters();
        int every = Ask.anything(x);
        x.refer(2, true);
        x.add(0, 0, 1, 0);
        x.add(0, 0, 2, 0);
        Check.due("set ahead", Ask.found(x, 0, 0, 0, ALL, every), "0 3 1");
        carryAll(x, 1);
        Check.due("at both", Ask.found(x, 1, 0, 0, ALL, every), "0 3 1");
        x.delete(0, 2);
        x.refer(2, false);
        Check.due("none at the second", Ask.found(x, 1, 0, 0, ALL, every), "0 2 3 1");
        x.refer(2, true);
        x.refer(2, true);
        x.move(1, 2, 1, 1);
        Check.due("wherever it is", Ask.found(x, 1, 0, 0, ALL, every), "0 3 1");
        Check.due("no change by a referral", x.changes(), 4);
    }

    // ---- filters

    private static void filtersByNumbers() {
        Check.part("Filters are numbered from 0; there can be 20");
        EntryMasters x = new EntryMasters();
        for (int filter = 0; filter < 20; filter++) {
            int number = filter;
            Check.index("not yet " + filter, () -> x.holds(0, number, 0));
            int made = filter % 3 == 1 ? x.join(0, filter - 1, filter - 1) : x.test(0, 0, 0);
            Check.due("number", made, filter);
            Check.due("there", x.holds(0, filter, 0), 0);
        }
        Check.state("21 tests", () -> x.test(0, 0, 0));
        Check.state("21 joins", () -> x.join(0, 0, 0));
        Check.index("none by these", () -> x.holds(0, 20, 0));
    }

    private static void testsByThirdTruth() {
        Check.part("unknown, if the class does not allow it; otherwise true or false (false without a value)");
        for (int attribute = 0; attribute < 4; attribute++) {
            EntryMasters x = new EntryMasters();
            x.setClass(1, 0, 15 & ~(1 << attribute));
            x.add(0, 0, 1, 1);
            x.add(0, 0, 2, 2);
            for (int kind = 0; kind < 3; kind++) {
                x.test(kind, attribute, 0);
                Check.due("not allowed", x.holds(0, kind, 2), NONE);
                Check.due("without a value", x.holds(0, kind, 3), 0);
            }
            x.set(0, 3, attribute, 0);
            x.set(0, 2, (attribute + 1) % 4, 0);
            for (int kind = 0; kind < 3; kind++) {
                Check.due("with the value", x.holds(0, kind, 3), 1);
                Check.due("not allowed still", x.holds(0, kind, 2), NONE);
            }
        }
    }

    /** The filters 0, 1 and 2 are false, true and unknown for the root. */
    private static EntryMasters threeTruths() {
        EntryMasters x = new EntryMasters();
        x.setClass(0, 0, 3);
        x.set(0, 0, 1, 0);
        x.test(0, 0, 0);
        x.test(0, 1, 0);
        x.test(0, 2, 0);
        return x;
    }

    private static void bothAndEitherAndNot() {
        Check.part("Both: false if one of them is false, otherwise unknown if one is, otherwise true. Either: true"
                + " if one of them is true, otherwise unknown if one is, otherwise false. Not: the opposite, or unknown");
        int[] truths = {0, 1, NONE};
        for (int first = 0; first < 3; first++) {
            for (int second = 0; second < 3; second++) {
                EntryMasters x = threeTruths();
                int one = truths[first];
                int two = truths[second];
                boolean isUnknown = one == NONE || two == NONE;
                int both = one == 0 || two == 0 ? 0 : isUnknown ? NONE : 1;
                int either = one == 1 || two == 1 ? 1 : isUnknown ? NONE : 0;
                int not = one == NONE ? NONE : 1 - one;
                Check.due("part", x.holds(0, first, 0), one);
                Check.due("both", x.holds(0, x.join(0, first, second), 0), both);
                Check.due("either", x.holds(0, x.join(1, first, second), 0), either);
                Check.due("not", x.holds(0, x.join(2, first, second), 0), not);
            }
        }
    }

    private static void joinsOfJoins() {
        Check.part("filters of filters");
        int[] truths = {0, 1, NONE};
        for (int part = 0; part < 3; part++) {
            EntryMasters x = threeTruths();
            int last = part;
            for (int i = 3; i < 20; i++) {
                last = x.join(2, last, 2 - part);
                int want = truths[part] == NONE ? NONE : i % 2 == 1 ? 1 - truths[part] : truths[part];
                Check.due("not of not", x.holds(0, last, 0), want);
            }
        }
        EntryMasters y = threeTruths();
        int isFalse = y.join(0, y.join(1, 1, 2), y.join(0, 0, 2));
        int isUnknown = y.join(0, y.join(1, 0, 2), y.join(2, isFalse, isFalse));
        Check.due("either and both", y.holds(0, isFalse, 0), 0);
        Check.due("either and not", y.holds(0, isUnknown, 0), NONE);
        y.set(0, 0, 0, 3);
        Check.due("by the values that are there now", y.holds(0, isUnknown, 0), NONE);
        y.set(0, 0, 1, NONE);
        Check.due("and those that are not", y.holds(0, isFalse, 0), NONE);
    }

    // ---- searches

    private static void scopes() {
        Check.part("The scope BASE is the base alone; ONE is the entries whose parent is the base;"
                + " ALL is the base and all below it");
        EntryMasters x = new EntryMasters();
        x.add(0, 0, 1, 0);
        x.add(0, 2, 1, 0);
        x.add(0, 2, 2, 0);
        x.add(0, 3, 1, 0);
        int every = Ask.anything(x);
        String[][] want = {
            {"0", "2 1", "0 2 3 5 4 1"}, {"1", "", "1"}, {"2", "3 4", "2 3 5 4"}, {"3", "5", "3 5"}, {"4", "", "4"},
            {"5", "", "5"},
        };
        for (int base = 0; base < 6; base++) {
            for (int scope = BASE; scope <= ALL; scope++) {
                String what = "base " + base + ", scope " + scope;
                Check.due(what, Ask.found(x, 0, 0, base, scope, every), want[base][scope]);
            }
        }
        Check.due("at the other master", Ask.found(x, 1, 0, 0, ALL, every), "0 1");
    }

    private static void orderOfSearch() {
        Check.part("an entry ahead of what lies below it, entries under the same parent by rising labels");
        EntryMasters x = new EntryMasters();
        x.add(0, 0, 98, 0);
        x.add(0, 0, 50, 0);
        x.add(0, 0, 47, 0);
        x.add(0, 0, 3, 0);
        x.add(0, 3, 9, 0);
        x.add(0, 3, 7, 0);
        x.add(0, 2, 0, 0);
        x.add(0, 7, 99, 0);
        int every = Ask.anything(x);
        Check.due("all", Ask.found(x, 0, 0, 0, ALL, every), "0 5 4 3 7 9 6 2 8 1");
        Check.due("one level", Ask.found(x, 0, 0, 0, ONE, every), "5 4 3 2 1");
        Check.due("from below", Ask.found(x, 0, 0, 3, ALL, every), "3 7 9 6");
        x.move(0, 5, 0, 96);
        Check.due("renamed", Ask.found(x, 0, 0, 0, ALL, every), "0 4 3 7 9 6 5 2 8 1");
        x.move(0, 3, 8, 0);
        Check.due("moved", Ask.found(x, 0, 0, 0, ALL, every), "0 4 5 2 8 3 7 9 6 1");
    }

    private static void orderOfThoseWithoutLabel() {
        Check.part("those with NONE behind the others, by rising numbers among these");
        EntryMasters x = new EntryMasters();
        for (int i = 0; i < 6; i++) {
            x.add(i / 3, 0, i < 3 ? 10 + i : 57 + i, 0);
        }
        x.add(1, 6, 0, 0);
        x.add(0, 0, 98, 0);
        carryAll(x, 0);
        carryAll(x, 1);
        int every = Ask.anything(x);
        Check.due("three have none", x.labelOf(0, 5) + x.labelOf(0, 6) + x.labelOf(0, 7), 3 * NONE);
        Check.due("all", Ask.found(x, 0, 0, 0, ALL, every), "0 2 3 4 9 1 5 6 8 7");
        Check.due("one level", Ask.found(x, 0, 0, 0, ONE, every), "2 3 4 9 1 5 6 7");
        x.move(0, 2, 0, 30);
        x.move(1, 5, 0, 80);
        Check.due("a label again", Ask.found(x, 1, 0, 0, ONE, every), "2 3 4 5 9 1 6 7");
        carryAll(x, 0);
        carryAll(x, 1);
        Check.due("the last to lose it is the first again", Ask.found(x, 1, 0, 0, ALL, every), "0 3 4 2 9 1 5 6 8 7");
        x.setRight(0, 5, DENY);
        x.refer(6, true);
        Check.due("some left out", Ask.found(x, 0, 0, 0, ALL, every), "0 3 4 2 9 1 7");
    }

    private static void referralsAreNotLookedAt() {
        Check.part("An entry that is a referral, but not the base, is not looked at, nor is what lies below it");
        EntryMasters x = new EntryMasters();
        x.add(0, 0, 1, 0);
        x.add(0, 2, 1, 0);
        x.add(0, 3, 1, 0);
        x.add(0, 0, 2, 0);
        int every = Ask.anything(x);
        x.refer(2, true);
        Check.due("all", Ask.found(x, 0, 0, 0, ALL, every), "0 5 1");
        Check.due("one level", Ask.found(x, 0, 0, 0, ONE, every), "5 1");
        Check.due("the base alone", Ask.found(x, 0, 0, 2, BASE, every), "2");
        Check.due("under it as the base", Ask.found(x, 0, 0, 2, ONE, every), "3");
        Check.due("below it as the base", Ask.found(x, 0, 0, 2, ALL, every), "2 3 4");
        Check.due("a base below it", Ask.found(x, 0, 0, 3, ALL, every), "3 4");
        x.refer(3, true);
        Check.due("one below another", Ask.found(x, 0, 0, 2, ALL, every), "2");
        Check.due("one level of it", Ask.found(x, 0, 0, 2, ONE, every), "");
        Check.due("the lower one as the base", Ask.found(x, 0, 0, 3, ALL, every), "3 4");
        x.refer(2, false);
        Check.due("the lower one alone", Ask.found(x, 0, 0, 0, ALL, every), "0 2 5 1");
        x.refer(0, true);
        x.refer(1, true);
        Check.due("the root and the lost one", Ask.found(x, 0, 0, 0, ALL, every), "0 2 5");
        Check.due("for every user", Ask.found(x, 0, 2, 0, ALL, every), "0 2 5");
        Check.due("holds looks at it", x.holds(0, every, 3), 1);
    }

    private static void foundByFilterAndRight() {
        Check.part("Found is what the filter is true for, and the right of the user that counts is ALLOW");
        EntryMasters x = new EntryMasters();
        x.setClass(1, 0, 14);
        for (int i = 0; i < 6; i++) {
            x.add(0, i == 3 ? 2 : 0, i, i % 3 == 2 ? 1 : 0);
        }
        x.set(0, 2, 0, 0);
        x.set(0, 5, 0, 0);
        for (int entry = 2; entry < 5; entry++) {
            x.setRight(1, entry, DENY);
        }
        x.setRight(1, 5, ALLOW);
        int present = x.test(0, 0, 0);
        int absent = x.join(2, present, present);
        Check.due("true and allowed", Ask.found(x, 0, 1, 0, ALL, present), "5");
        Check.due("false and allowed", Ask.found(x, 0, 1, 0, ALL, absent), "0 6 1");
        Check.due("another user, true", Ask.found(x, 0, 0, 0, ALL, present), "2 5");
        Check.due("another user, false", Ask.found(x, 0, 0, 0, ALL, absent), "0 3 6 1");
        int unknown = x.join(0, present, absent);
        Check.due("never unknown", Ask.found(x, 0, 0, 0, ALL, unknown), "");
        for (int entry = 4; entry < 8; entry += 3) {
            Check.due("unknown", x.holds(0, present, entry), NONE);
            Check.due("unknown, not", x.holds(0, absent, entry), NONE);
        }
        Check.due("a place counts what is found alone", x.search(0, 1, 0, ALL, absent, 2), 1);
        Check.due("not so much", x.search(0, 1, 0, ALL, absent, 3), NONE);
    }
}
