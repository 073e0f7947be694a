/** What the calls tell of an object, as texts: objects that stand alike give the same ones. */
final class Ask {
    /** An object is good for 512 calls, so all of it is asked in parts, each of an object of its own. */
    static final int PARTS = 4;

    private static final int NUMBERS = 42;
    private static final int ATTRIBUTES = 4;
    private static final int USERS = 3;

    private Ask() {}

    /** Every entry that is there, with its parent, label and values. */
    static String tree(EntryMasters x, int master) {
        StringBuilder text = new StringBuilder();
        text.append(x.entries(master)).append(" of ").append(x.changes());
        for (int e = 0; e < NUMBERS; e++) {
            if (x.isThere(master, e)) {
                text.append(" [").append(e).append(" under ").append(x.parentOf(master, e));
                text.append(" as ").append(x.labelOf(master, e)).append(':');
                for (int a = 0; a < ATTRIBUTES; a++) {
                    text.append(' ').append(x.value(master, e, a));
                }
                text.append(']');
            }
        }
        return text.toString();
    }

    /** All that a search finds. */
    static String found(EntryMasters x, int master, int user, int base, int scope, int filter) {
        StringBuilder text = new StringBuilder();
        for (int place = 0; place <= NUMBERS; place++) {
            int entry = x.search(master, user, base, scope, filter, place);
            if (entry == EntryMasters.NONE) {
                break;
            }
            text.append(place == 0 ? "" : " ").append(entry);
        }
        return text.toString();
    }

    /** Makes a filter that is true for every entry whose class allows the attribute 0. */
    static int anything(EntryMasters x) {
        int present = x.test(0, 0, 0);
        return x.join(1, present, x.join(2, present, present));
    }

    // ---- all of an object; what is asked is used up by it, as some parts make changes

    static String part(EntryMasters x, int part) {
        switch (part) {
            case 0:
                return treesAndTimes(x);
            case 1:
                return rightsReferralsAndFilters(x);
            case 2:
                return whatIsKnown(x);
            default:
                return whatComesNext(x);
        }
    }

    private static String treesAndTimes(EntryMasters x) {
        StringBuilder text = new StringBuilder();
        for (int change = 0; change < x.changes(); change++) {
            text.append(x.timeOf(change)).append(' ');
        }
        for (int master = 0; master < 2; master++) {
            text.append(tree(x, master)).append('\n');
            for (int e = 0; e < 8; e++) {
                int at = master;
                int entry = e;
                text.append(Check.answer(() -> x.isWhole(at, entry) ? 1 : 0)).append(' ');
            }
        }
        return text.append(x.areAlike()).toString();
    }

    private static String rightsReferralsAndFilters(EntryMasters x) {
        StringBuilder text = new StringBuilder();
        for (int master = 0; master < 2; master++) {
            for (int filter = 0; filter < 20; filter++) {
                for (int e = 0; e < 3; e++) {
                    text.append(answerOfHolds(x, master, filter, e)).append(' ');
                }
            }
        }
        int filters = filtersThatAreThere(x);
        for (int user = 0; user < USERS && filters > Scenes.TRUE_FOR_ALL; user++) {
            for (int master = 0; master < 2; master++) {
                text.append(found(x, master, user, 0, EntryMasters.ALL, Scenes.TRUE_FOR_ALL)).append('\n');
                text.append(allowed(x, master, user)).append('\n');
            }
        }
        text.append(Check.answer(() -> x.test(0, 0, 0))).append(' ');
        return text.append(Check.answer(() -> x.join(2, 0, 0))).toString();
    }

    private static String answerOfHolds(EntryMasters x, int master, int filter, int entry) {
        return Check.answer(() -> x.holds(master, filter, entry));
    }

    private static int filtersThatAreThere(EntryMasters x) {
        int count = 0;
        while (!answerOfHolds(x, 0, count, 0).startsWith("threw")) {
            count++;
        }
        return count;
    }

    /** Each entry alone, so that rights show under referrals and denied entries too. */
    private static String allowed(EntryMasters x, int master, int user) {
        StringBuilder text = new StringBuilder();
        for (int e = 0; e < 10; e++) {
            int base = e;
            text.append(Check.answer(
                    () -> x.search(master, user, base, EntryMasters.BASE, Scenes.TRUE_FOR_ALL, 0)));
            text.append(' ');
        }
        return text.toString();
    }

    private static String whatIsKnown(EntryMasters x) {
        StringBuilder text = new StringBuilder();
        for (int change = 0; change < x.changes(); change++) {
            for (int master = 0; master < 2; master++) {
                text.append(x.carry(change, master) ? '1' : '0');
            }
        }
        return text.append(tree(x, 0)).append(x.areAlike()).toString();
    }

    private static String whatComesNext(EntryMasters x) {
        StringBuilder text = new StringBuilder();
        for (int its = 0; its < 3; its++) {
            int master = its % 2;
            int of = its;
            String entry = Check.answer(() -> x.add(master, 0, 40 + of, of));
            text.append(entry).append(' ');
            if (!entry.startsWith("threw")) {
                text.append(ofNewEntry(x, master, Integer.parseInt(entry)));
            }
        }
        for (int user = 0; user < USERS; user++) {
            int by = user;
            text.append(Check.answer(
                    () -> x.search(0, by, 0, EntryMasters.ALL, Scenes.TRUE_FOR_ALL, 1))).append(' ');
        }
        return text.toString();
    }

    private static String ofNewEntry(EntryMasters x, int master, int entry) {
        StringBuilder text = new StringBuilder();
        text.append(x.timeOf(entry - 2)).append(' ').append(x.isWhole(master, entry)).append(' ');
        for (int a = 0; a < ATTRIBUTES; a++) {
            int attribute = a;
            text.append(Check.answer(() -> x.set(master, entry, attribute, 4))).append(' ');
            text.append(x.isWhole(master, entry)).append(' ');
        }
        return text.toString();
    }
}
