/** Objects in which calls are tried, always made by the same calls. */
final class Scenes {
    interface Scene {
        EntryMasters make();
    }

    /** In all scenes but a new object: a filter that is true for every entry. */
    static final int TRUE_FOR_ALL = 6;

    static final int FILTERS_AT_FIRST = 7;
    static final int CHANGES_OF_TREES = 9;

    private Scenes() {}

    /** Classes, rights, referrals and seven filters, but no change. */
    static EntryMasters early() {
        EntryMasters x = new EntryMasters();
        x.setClass(1, 1, 6);
        x.setClass(2, 0, 8);
        x.join(1, x.test(0, 0, 0), x.join(2, 0, 0));
        x.join(1, x.test(0, 3, 0), x.join(2, 3, 3));
        x.join(1, 2, 5);
        x.setRight(0, 2, EntryMasters.DENY);
        x.setRight(0, 3, EntryMasters.ALLOW);
        x.setRight(1, 1, EntryMasters.DENY);
        x.setRight(2, 41, EntryMasters.DENY);
        x.refer(7, true);
        return x;
    }

    /**
     * Nine changes, not all of them carried. At both masters 0, 1, 2 under 0 as 10, and 3 under 2;
     * 6 only at the first, 4 and 7 only at the second; 9 is deleted. Under the root the label 33 is
     * free, and 49 is like the lost one's. Entry 2 has the class 1, that allows the attributes 0
     * to 2.
     */
    static EntryMasters trees() {
        EntryMasters x = early();
        x.add(0, 0, 10, 1);
        x.add(0, 2, 20, 0);
        x.add(1, 0, 60, 2);
        x.carry(0, 1);
        x.carry(1, 1);
        x.set(0, 2, 0, 5);
        x.add(0, 3, 21, 2);
        x.add(1, 1, 21, 0);
        x.move(0, 6, 0, 30);
        x.carry(6, 1);
        x.add(0, 2, 40, 2);
        x.delete(0, 9);
        return x;
    }

    /** The same trees, but 40 changes and 20 filters. */
    static EntryMasters full() {
        EntryMasters x = trees();
        for (int change = CHANGES_OF_TREES; change < 40; change++) {
            x.set(change % 2, change / 2 % 2, change / 4 % 4, change % 10);
        }
        for (int filter = FILTERS_AT_FIRST; filter < 20; filter++) {
            x.join(filter % 3, filter - 1, filter - 3);
        }
        return x;
    }
}
