import java.util.Random;

/** Long runs of calls, made by a fixed rule, at EntryMasters and at the Model: all must agree. */
public final class ModelTest {
    private static final int RUNS = 1500;
    private static final int CALLS = 512;

    private final Random random;
    private final EntryMasters x = new EntryMasters();
    private final Model m = new Model();
    private final int run;
    private final int wildness;
    private final int labels;
    private int calls = 0;
    private int faultsTold = 0;
    private final StringBuilder trace = new StringBuilder();

    private ModelTest(int run) {
        this.run = run;
        random = new Random(7919L * run + 5);
        wildness = run % 3 == 0 ? 12 : 60;
        labels = run % 2 == 0 ? 8 : 100;
    }

    public static void main(String[] args) {
        for (int run = 0; run < RUNS; run++) {
            Check.part("run " + run);
            new ModelTest(run).go();
        }
        Check.finish("ModelTest");
    }

    private void go() {
        for (int i = 0; i < 4; i++) {
            classes();
        }
        while (calls < 140) {
            one();
        }
        if (run % 4 == 0) {
            while (calls < CALLS) {
                one();
            }
        } else {
            sweep();
        }
    }

    private void one() {
        switch (random.nextInt(24)) {
            case 0, 1, 2, 3, 4 -> add();
            case 5, 6, 7 -> move();
            case 8, 9 -> set();
            case 10 -> delete();
            case 11, 12, 13, 14, 15, 16 -> carry();
            case 17 -> setRight();
            case 18 -> refer();
            case 19 -> test();
            case 20 -> join();
            case 21 -> looks();
            case 22 -> search();
            default -> holds();
        }
    }

    /** All that can be asked of both trees, within the calls that an object is good for. */
    private void sweep() {
        for (int master = 0; master < 2; master++) {
            int at = master;
            both("entries", () -> x.entries(at), () -> m.entries(at));
            for (int entry = 0; entry < 42; entry++) {
                int e = entry;
                both("isThere " + e, () -> number(x.isThere(at, e)), () -> number(m.isThere(at, e)));
                if (m.isThere(at, e)) {
                    both("parentOf " + e, () -> x.parentOf(at, e), () -> m.parentOf(at, e));
                    both("labelOf " + e, () -> x.labelOf(at, e), () -> m.labelOf(at, e));
                }
            }
        }
        both("areAlike", () -> number(x.areAlike()), () -> number(m.areAlike()));
        while (calls < CALLS) {
            if (calls % 2 == 0) {
                search();
            } else {
                looks();
            }
        }
    }

    // ---- arguments: mostly good ones, some at the edge, some far off

    private int number(int count) {
        int draw = random.nextInt(wildness * 10);
        if (draw == 0) {
            return random.nextInt();
        }
        if (draw < 8) {
            return random.nextInt(count + 3) - 2;
        }
        return random.nextInt(count);
    }

    private int master() {
        return number(2);
    }

    private int entry(int master) {
        if (random.nextInt(wildness) == 0) {
            return number(42);
        }
        int from = random.nextInt(42);
        for (int i = 0; i < 42; i++) {
            int e = (from + i) % 42;
            if (m.isThere(master == 1 ? 1 : 0, e)) {
                return e;
            }
        }
        return 0;
    }

    private int label() {
        int label = number(labels);
        return label >= 0 && label < 100 && random.nextInt(3) == 0 ? (label + 50) % 100 : label;
    }

    private int noneOr(int count) {
        return number(count + 1) - 1;
    }

    private int filter() {
        return number(Math.max(1, Math.min(20, filters)));
    }

    private int filters = 0;

    // ---- calls

    private void classes() {
        int its = number(3);
        int needed = number(16);
        int allowed = number(16);
        both("setClass " + its + " " + needed + " " + allowed, () -> {
            x.setClass(its, needed, allowed);
            return 0;
        }, () -> {
            m.setClass(its, needed, allowed);
            return 0;
        });
    }

    private void add() {
        int master = master();
        int parent = entry(master);
        int label = label();
        int its = number(3);
        both("add " + master + " " + parent + " " + label + " " + its,
                () -> x.add(master, parent, label, its), () -> m.add(master, parent, label, its));
    }

    private void move() {
        int master = master();
        int entry = entry(master);
        int parent = entry(master);
        int label = label();
        both("move " + master + " " + entry + " " + parent + " " + label,
                () -> x.move(master, entry, parent, label), () -> m.move(master, entry, parent, label));
    }

    private void set() {
        int master = master();
        int entry = entry(master);
        int attribute = number(4);
        int value = noneOr(10);
        both("set " + master + " " + entry + " " + attribute + " " + value,
                () -> x.set(master, entry, attribute, value), () -> m.set(master, entry, attribute, value));
    }

    private void delete() {
        int master = master();
        int entry = entry(master);
        both("delete " + master + " " + entry, () -> x.delete(master, entry), () -> m.delete(master, entry));
    }

    private void carry() {
        int change = number(Math.max(1, m.changes()));
        int master = master();
        both("carry " + change + " " + master,
                () -> number(x.carry(change, master)), () -> number(m.carry(change, master)));
    }

    private void setRight() {
        int user = number(3);
        int entry = random.nextInt(3) == 0 ? number(42) : entry(0);
        int right = noneOr(2);
        both("setRight " + user + " " + entry + " " + right, () -> {
            x.setRight(user, entry, right);
            return 0;
        }, () -> {
            m.setRight(user, entry, right);
            return 0;
        });
    }

    private void refer() {
        int entry = number(42);
        boolean isReferral = random.nextInt(3) == 0;
        both("refer " + entry + " " + isReferral, () -> {
            x.refer(entry, isReferral);
            return 0;
        }, () -> {
            m.refer(entry, isReferral);
            return 0;
        });
    }

    private void test() {
        int kind = number(3);
        int attribute = number(4);
        int value = number(10);
        long made = both("test " + kind + " " + attribute + " " + value,
                () -> x.test(kind, attribute, value), () -> m.test(kind, attribute, value));
        filters = (int) Math.max(filters, made + 1);
    }

    private void join() {
        int kind = number(3);
        int first = filter();
        int second = filter();
        long made = both("join " + kind + " " + first + " " + second,
                () -> x.join(kind, first, second), () -> m.join(kind, first, second));
        filters = (int) Math.max(filters, made + 1);
    }

    private void holds() {
        int master = master();
        int filter = filter();
        int entry = entry(master);
        both("holds " + master + " " + filter + " " + entry,
                () -> x.holds(master, filter, entry), () -> m.holds(master, filter, entry));
    }

    private void search() {
        int master = master();
        int user = number(3);
        int base = random.nextInt(2) == 0 ? 0 : entry(master);
        int scope = random.nextInt(2) == 0 ? 2 : number(3);
        int filter = filter();
        int place = random.nextInt(40) == 0 ? random.nextInt() : random.nextInt(4);
        both("search " + master + " " + user + " " + base + " " + scope + " " + filter + " " + place,
                () -> x.search(master, user, base, scope, filter, place),
                () -> m.search(master, user, base, scope, filter, place));
    }

    private void looks() {
        int master = master();
        int entry = entry(master);
        int a = number(4);
        int label = label();
        int change = number(Math.max(1, m.changes()));
        String of = " " + master + " " + entry + " ";
        switch (random.nextInt(10)) {
            case 0 -> both("changes", () -> x.changes(), () -> m.changes());
            case 1 -> both("timeOf " + change, () -> x.timeOf(change), () -> m.timeOf(change));
            case 2 -> both("entries" + of, () -> x.entries(master), () -> m.entries(master));
            case 3 -> both("isThere" + of,
                    () -> number(x.isThere(master, entry)), () -> number(m.isThere(master, entry)));
            case 4 -> both("parentOf" + of, () -> x.parentOf(master, entry), () -> m.parentOf(master, entry));
            case 5 -> both("labelOf" + of, () -> x.labelOf(master, entry), () -> m.labelOf(master, entry));
            case 6 -> both("value" + of + a, () -> x.value(master, entry, a), () -> m.value(master, entry, a));
            case 7 -> both("isWhole" + of,
                    () -> number(x.isWhole(master, entry)), () -> number(m.isWhole(master, entry)));
            case 8 -> both("find" + of + label,
                    () -> x.find(master, entry, label), () -> m.find(master, entry, label));
            default -> both("areAlike", () -> number(x.areAlike()), () -> number(m.areAlike()));
        }
    }

    private static long number(boolean truth) {
        return truth ? 1 : 0;
    }

    /** Makes one call at both; what is thrown counts as an answer by its exact name. */
    private long both(String what, Check.Question ofProgram, Check.Question ofModel) {
        calls++;
        trace.append(what).append("; ");
        String got = Check.answer(ofProgram);
        String want = Check.answer(ofModel);
        String where = got.equals(want) || faultsTold++ > 0 ? what : trace.toString();
        Check.due("call " + calls + ": " + where, got, want);
        return want.startsWith("threw") ? -1 : Long.parseLong(want);
    }
}
