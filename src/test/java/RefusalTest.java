import java.util.HashMap;
import java.util.Map;

/**
 * "A call that throws an exception changes nothing; if several exceptions apply, the one that its
 * throws lines name first is thrown." For each call that can throw, good and bad arguments are tried
 * in all their combinations: what is thrown is due, and an object that refused a call answers like
 * one that was never asked.
 */
public final class RefusalTest {
    private static final int LEAST = Integer.MIN_VALUE, GREATEST = Integer.MAX_VALUE;
    private static final int[] MASTERS = {-1, 0, 1, 2};
    private static final int[] ENTRIES = {LEAST, -1, 0, 1, 2, 3, 5, 9, 42, GREATEST};
    private static final int[] LABELS = {-1, 33, 49, 100};
    private static final int[] USERS = {-1, 0, 2, 3};

    private interface Act {
        void on(EntryMasters x);
    }

    private final Scenes.Scene scene;
    private final String name;
    private final int changes;
    private final int filters;
    private final boolean hasTrees;
    /** What the parts of an object tell that was never asked. */
    private final Map<Integer, String> untried = new HashMap<>();

    private RefusalTest(String name, Scenes.Scene scene, int changes, int filters) {
        this.name = name;
        this.scene = scene;
        this.changes = changes;
        this.filters = filters;
        hasTrees = changes > 0;
        for (int part = 0; part < Ask.PARTS; part++) {
            untried.put(part, Ask.part(scene.make(), part));
        }
    }

    public static void main(String[] args) {
        new RefusalTest("new object", () -> new EntryMasters(), 0, 0).go();
        new RefusalTest("no changes", () -> Scenes.early(), 0, Scenes.FILTERS_AT_FIRST).go();
        new RefusalTest("trees", () -> Scenes.trees(), Scenes.CHANGES_OF_TREES, Scenes.FILTERS_AT_FIRST).go();
        new RefusalTest("full", () -> Scenes.full(), 40, 20).go();
        Check.finish("RefusalTest");
    }

    private void go() {
        Check.part(name);
        setClass();
        add();
        set();
        move();
        delete();
        carry();
        timeOf();
        ofMaster();
        ofEntry();
        value();
        find();
        setRight();
        refer();
        test();
        join();
        holds();
        search();
    }

    // ---- one call

    private static String first(boolean isIndex, boolean isArgument, boolean isState) {
        if (isIndex) {
            return "IndexOutOfBoundsException";
        }
        if (isArgument) {
            return "IllegalArgumentException";
        }
        return isState ? "IllegalStateException" : "nothing thrown";
    }

    private void tried(String call, Act act, String want) {
        EntryMasters x = scene.make();
        Check.due(call, Check.outcome(() -> act.on(x)), want);
        if (want.equals("nothing thrown")) {
            return;
        }
        for (int part = 0; part < Ask.PARTS; part++) {
            EntryMasters again = scene.make();
            Check.outcome(() -> act.on(again));
            Check.due(call + " leaves part " + part + " as it was", Ask.part(again, part), untried.get(part));
        }
    }

    private static boolean isIn(int number, int count) {
        return number >= 0 && number < count;
    }

    private static boolean isMaster(int master) {
        return master == 0 || master == 1;
    }

    /** The entries that both masters have, as the tests name only these and such as are at none. */
    private boolean isThere(int entry) {
        return isIn(entry, hasTrees ? 4 : 2);
    }

    private static String call(String name, int... arguments) {
        StringBuilder text = new StringBuilder(name);
        for (int i = 0; i < arguments.length; i++) {
            text.append(i == 0 ? "(" : ", ").append(arguments[i]);
        }
        return text.append(')').toString();
    }

    // ---- classes and changes

    private void setClass() {
        for (int its : new int[] {LEAST, -1, 0, 2, 3, GREATEST}) {
            for (int needed : new int[] {LEAST, -1, 0, 15, 16, GREATEST}) {
                for (int allowed : new int[] {LEAST, -1, 0, 15, 16, GREATEST}) {
                    boolean isArgument = !isIn(needed, 16) || !isIn(allowed, 16);
                    tried(call("setClass", its, needed, allowed), x -> x.setClass(its, needed, allowed),
                            first(!isIn(its, 3), isArgument, changes > 0));
                }
            }
        }
    }

    private void add() {
        for (int master : MASTERS) {
            for (int parent : new int[] {-1, 0, 5, 9, 42}) {
                for (int label : LABELS) {
                    for (int its : new int[] {-1, 0, 2, 3}) {
                        boolean isIndex = !isMaster(master) || !isThere(parent) || !isIn(its, 3);
                        boolean isState = changes == 40 || label == 49;
                        tried(call("add", master, parent, label, its), x -> x.add(master, parent, label, its),
                                first(isIndex, !isIn(label, 100), isState));
                    }
                }
            }
        }
    }

    private void set() {
        for (int master : MASTERS) {
            for (int entry : ENTRIES) {
                for (int attribute : new int[] {-1, 0, 3, 4}) {
                    for (int value : new int[] {-2, -1, 9, 10}) {
                        boolean isIndex = !isMaster(master) || !isThere(entry) || !isIn(attribute, 4);
                        boolean isState = changes == 40 || entry == 2 && attribute == 3;
                        tried(call("set", master, entry, attribute, value),
                                x -> x.set(master, entry, attribute, value),
                                first(isIndex, !isIn(value + 1, 11), isState));
                    }
                }
            }
        }
    }

    private void move() {
        for (int master : MASTERS) {
            for (int entry : ENTRIES) {
                for (int parent : new int[] {-1, 0, 1, 2, 3, 9, 42}) {
                    for (int label : LABELS) {
                        boolean isIndex = !isMaster(master) || !isThere(entry) || !isThere(parent);
                        boolean isRing = parent == entry || entry == 2 && parent == 3;
                        boolean isTaken = label == 49 && parent == 0;
                        boolean isState = changes == 40 || entry == 0 || entry == 1 || isRing || isTaken;
                        tried(call("move", master, entry, parent, label),
                                x -> x.move(master, entry, parent, label),
                                first(isIndex, !isIn(label, 100), isState));
                    }
                }
            }
        }
    }

    private void delete() {
        for (int master : MASTERS) {
            for (int entry : ENTRIES) {
                boolean isState = changes == 40 || entry == 0 || entry == 1 || entry == 2;
                tried(call("delete", master, entry), x -> x.delete(master, entry),
                        first(!isMaster(master) || !isThere(entry), false, isState));
            }
        }
    }

    private void carry() {
        for (int change : new int[] {LEAST, -1, 0, 2, 5, changes - 1, changes, 40, GREATEST}) {
            for (int master : MASTERS) {
                tried(call("carry", change, master), x -> x.carry(change, master),
                        first(!isIn(change, changes) || !isMaster(master), false, false));
            }
        }
    }

    private void timeOf() {
        for (int change : new int[] {LEAST, -1, 0, changes - 1, changes, 40, GREATEST}) {
            tried(call("timeOf", change), x -> x.timeOf(change), first(!isIn(change, changes), false, false));
        }
    }

    // ---- the tree of a master

    private void ofMaster() {
        for (int master : new int[] {LEAST, -1, 0, 1, 2, GREATEST}) {
            String want = first(!isMaster(master), false, false);
            tried(call("entries", master), x -> x.entries(master), want);
            for (int entry : ENTRIES) {
                tried(call("isThere", master, entry), x -> x.isThere(master, entry), want);
            }
        }
    }

    private void ofEntry() {
        for (int master : MASTERS) {
            for (int entry : ENTRIES) {
                String want = first(!isMaster(master) || !isThere(entry), false, false);
                tried(call("parentOf", master, entry), x -> x.parentOf(master, entry), want);
                tried(call("labelOf", master, entry), x -> x.labelOf(master, entry), want);
                tried(call("isWhole", master, entry), x -> x.isWhole(master, entry), want);
            }
        }
    }

    private void value() {
        for (int master : MASTERS) {
            for (int entry : ENTRIES) {
                for (int attribute : new int[] {LEAST, -1, 0, 3, 4, GREATEST}) {
                    boolean isIndex = !isMaster(master) || !isThere(entry) || !isIn(attribute, 4);
                    tried(call("value", master, entry, attribute), x -> x.value(master, entry, attribute),
                            first(isIndex, false, false));
                }
            }
        }
    }

    private void find() {
        for (int master : MASTERS) {
            for (int parent : ENTRIES) {
                for (int label : new int[] {LEAST, -1, 0, 99, 100, GREATEST}) {
                    tried(call("find", master, parent, label), x -> x.find(master, parent, label),
                            first(!isMaster(master) || !isThere(parent), !isIn(label, 100), false));
                }
            }
        }
    }

    // ---- rights, referrals, filters, searches

    private void setRight() {
        for (int user : USERS) {
            for (int entry : new int[] {LEAST, -1, 0, 2, 3, 41, 42, GREATEST}) {
                for (int right : new int[] {LEAST, -2, -1, 1, 2, GREATEST}) {
                    tried(call("setRight", user, entry, right), x -> x.setRight(user, entry, right),
                            first(!isIn(user, 3) || !isIn(entry, 42), !isIn(right + 1, 3), false));
                }
            }
        }
    }

    private void refer() {
        for (int entry : new int[] {LEAST, -1, 0, 41, 42, GREATEST}) {
            String want = first(!isIn(entry, 42), false, false);
            tried(call("refer true", entry), x -> x.refer(entry, true), want);
            tried(call("refer false", entry), x -> x.refer(entry, false), want);
        }
    }

    private void test() {
        for (int kind : new int[] {LEAST, -1, 0, 1, 2, 3, GREATEST}) {
            for (int attribute : new int[] {-1, 0, 3, 4}) {
                for (int value : new int[] {-1, 0, 9, 10}) {
                    boolean isArgument = !isIn(kind, 3) || !isIn(attribute, 4) || !isIn(value, 10);
                    tried(call("test", kind, attribute, value), x -> x.test(kind, attribute, value),
                            first(false, isArgument, filters == 20));
                }
            }
        }
    }

    private void join() {
        int[] numbers = {LEAST, -1, 0, filters - 1, filters, 20, GREATEST};
        for (int kind : new int[] {-1, 0, 1, 2, 3}) {
            for (int one : numbers) {
                for (int two : numbers) {
                    tried(call("join", kind, one, two), x -> x.join(kind, one, two),
                            first(!isIn(one, filters) || !isIn(two, filters), !isIn(kind, 3), filters == 20));
                }
            }
        }
    }

    private void holds() {
        for (int master : MASTERS) {
            for (int filter : new int[] {LEAST, -1, 0, filters - 1, filters, 20, GREATEST}) {
                for (int entry : ENTRIES) {
                    boolean isIndex = !isMaster(master) || !isIn(filter, filters) || !isThere(entry);
                    tried(call("holds", master, filter, entry), x -> x.holds(master, filter, entry),
                            first(isIndex, false, false));
                }
            }
        }
    }

    private void search() {
        for (int master : new int[] {-1, 0, 1, 2}) {
            for (int user : USERS) {
                for (int base : new int[] {-1, 0, 9, 42}) {
                    for (int filter : new int[] {-1, 0, filters - 1, filters}) {
                        boolean isIndex = !isMaster(master) || !isIn(user, 3) || !isThere(base)
                                || !isIn(filter, filters);
                        search(master, user, base, filter, isIndex);
                    }
                }
            }
        }
    }

    private void search(int master, int user, int base, int filter, boolean isIndex) {
        for (int scope : new int[] {-1, 0, 2, 3}) {
            for (int place : new int[] {-1, 0, GREATEST}) {
                tried(call("search", master, user, base, scope, filter, place),
                        x -> x.search(master, user, base, scope, filter, place),
                        first(isIndex || place < 0, !isIn(scope, 3), false));
            }
        }
    }
}
