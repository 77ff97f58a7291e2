/** Promises 23 to 33: rings of debts, evening out, June. */
public final class DebtPromises {
    private static final Checks T = new Checks();

    public static void main(String[] args) {
        ring();
        cancel();
        rings();
        netAndLeast();
        even();
        evenBeyondTheMost();
        debtor();
        june();
        hay();
        works();
        summer();
        T.finish();
    }

    private static void ring() {
        SnowForSummer x = Checks.debts(4, 0, 1, 5, 1, 2, 4, 2, 3, 6);
        x.least();
        T.due("no ring", x.ring(), -2);
        T.row("no ring: the ROW stays", x, 15);
        Checks.owe(x, 3, 0, 3);
        T.due("a ring of all", x.ring(), 4);
        T.row("a ring of all", x, 0, 1, 2, 3, 3);
        Checks.owe(x, 3, 1, 9);
        T.due("a shorter one", x.ring(), 3);
        T.row("a shorter one", x, 1, 2, 3, 4);
        Checks.owe(x, 2, 0, 1);
        T.due("as short, a lesser row", x.ring(), 3);
        T.row("as short, a lesser row", x, 0, 1, 2, 1);
        Checks.owe(x, 3, 2, 2);
        T.due("two owe each other", x.ring(), 2);
        T.row("two owe each other", x, 2, 3, 2);
        SnowForSummer y = Checks.debts(7, 0, 3, 1, 3, 6, 1, 6, 0, 1, 0, 2, 1, 2, 5, 1, 5, 0, 1);
        T.due("the least next one", y.ring(), 3);
        T.row("the least next one", y, 0, 2, 5, 1);
        SnowForSummer z = Checks.debts(7, 0, 6, 2, 6, 5, 2, 5, 4, 2, 4, 3, 2, 3, 2, 2, 2, 1, 2, 1, 0, 1);
        T.due("seven, backwards", z.ring(), 7);
        T.row("seven, backwards", z, 0, 6, 5, 4, 3, 2, 1, 1);
        SnowForSummer f = Checks.debts(7, 0, 1, 2, 1, 2, 2, 2, 3, 2, 3, 4, 2, 4, 5, 2, 5, 6, 2, 6, 0, 1);
        T.due("seven, forwards", f.ring(), 7);
        T.row("seven, forwards", f, 0, 1, 2, 3, 4, 5, 6, 1);
        T.due("seven cleared", f.cancel(), 7);
        T.due("of the last one nothing is left", f.debt(6, 0), 0);
        T.due("of the others one day", f.debt(5, 6), 1);
    }

    private static void cancel() {
        SnowForSummer x = Checks.debts(3, 0, 1, 5, 1, 2, 4, 2, 0, 6);
        x.net(0);
        x.least();
        T.due("cancel", x.cancel(), 12);
        T.row("cancel() tells no ROW", x, 15);
        T.due("0 owes 1", x.debt(0, 1), 1);
        T.due("1 owes 2", x.debt(1, 2), 0);
        T.due("2 owes 0", x.debt(2, 0), 2);
        T.due("no more", x.cancel(), -2);
    }

    private static void rings() {
        SnowForSummer x = Checks.debts(3, 0, 1, 5, 1, 0, 2, 1, 2, 4, 2, 0, 6);
        T.due("rings", x.rings(), 2);
        T.row("rings", x, 2 * 2 + 3 * 3);
        T.due("0 owes 1", x.debt(0, 1), 0);
        T.due("1 owes 2", x.debt(1, 2), 1);
        T.due("2 owes 0", x.debt(2, 0), 3);
        T.due("none", x.rings(), 0);
        T.row("none", x, 0);
        T.due("undone at once", x.undo() >= 0, true);
        T.due("0 owes 1 again", x.debt(0, 1), 5);
        T.due("1 owes 0 again", x.debt(1, 0), 2);
    }

    private static void netAndLeast() {
        SnowForSummer x = Checks.debts(4, 0, 1, 5, 1, 2, 4, 0, 2, 6, 3, 0, 2);
        int[] net = {-9, 1, 10, -2};
        for (int house = 0; house < 4; house++) {
            T.due("net(" + house + ")", x.net(house), net[house]);
        }
        T.noSuch("net(4)", () -> x.net(4));
        T.noSuch("net(-1)", () -> x.net(-1));
        T.due("least", x.least(), 11);
        T.row("least", x, 17);
    }

    private static void even() {
        SnowForSummer x = Checks.debts(4, 0, 1, 5, 1, 2, 4, 0, 2, 6, 3, 0, 2);
        T.due("even", x.even(), 3);
        T.row("even", x, 17 - 11);
        T.due("0 owes 1", x.debt(0, 1), 1);
        T.due("0 owes 2", x.debt(0, 2), 8);
        T.due("3 owes 2", x.debt(3, 2), 2);
        T.due("3 owes 0 no more", x.debt(3, 0), 0);
        T.due("in all", x.count(4), 11);
        T.due("even again", x.even(), 3);
        T.row("even again", x, 0);
    }

    private static void evenBeyondTheMost() {
        SnowForSummer x = Checks.debts(4);
        int[] pairs = {0, 2, 0, 1, 1, 2};
        for (int i = 0; i < pairs.length; i += 2) {
            oweMost(x, pairs[i], pairs[i + 1]);
        }
        Checks.owe(x, 0, 3, 8);
        T.due("0 is behind", x.net(0), -9999 - 9999 - 8);
        T.due("2 is ahead", x.net(2), 9999 + 9999);
        T.due("even", x.even(), 2);
        T.due("9999 at most to one", x.debt(0, 2), 9999);
        T.due("what is more, to the next one", x.debt(0, 3), 8);
    }

    /** One owes another one as much as can be. */
    private static void oweMost(SnowForSummer x, int from, int to) {
        Checks.put(x, "99*(h=" + from + ")").rule();
        Checks.put(x, "9").weather();
        int hold = x.set(from, 0, 1);
        int first = x.set(from, 4, to);
        int second = x.set(from, 5, to);
        x.days(60);
        x.set(from, 0, hold);
        x.set(from, 4, first);
        x.set(from, 5, second);
        Checks.put(x, "").weather();
        x.sheet(3, 0, 0, 0);
        T.due("as much as can be", x.debt(from, to), 9999);
    }

    private static void debtor() {
        SnowForSummer x = Checks.debts(3);
        x.least();
        T.due("nobody owes", x.debtor(), -2);
        T.row("nobody owes: the ROW stays", x, 0);
        Checks.owe(x, 1, 0, 4);
        Checks.owe(x, 2, 0, 3);
        Checks.owe(x, 2, 1, 1);
        T.due("of equal ones the first", x.debtor(), 1);
        T.row("of equal ones the first", x, 4, 1);
        Checks.owe(x, 2, 1, 1);
        T.due("the most", x.debtor(), 2);
        T.row("the most", x, 5, 2);
    }

    private static void june() {
        SnowForSummer x = Checks.debts(3);
        T.due("no DEBTS", x.june(), 0);
        T.row("no DEBTS", x, -1);
        Checks.owe(x, 1, 0, 40);
        Checks.owe(x, 1, 2, 50);
        Checks.owe(x, 2, 0, 90);
        T.due("june", x.june(), 90);
        T.row("june", x, 1);
    }

    private static void hay() {
        SnowForSummer x = Checks.debts(3, 0, 2, 3, 0, 1, 2, 2, 0, 4);
        x.set(0, 6, 5);
        x.set(1, 6, 10);
        x.set(2, 6, 2);
        T.due("hay(0)", x.hay(0), 0);
        T.row("hay(0)", x, 17);
        T.due("hay(2): 0 works for 1 first, 1 for itself, 2 for 0", x.hay(2), 0);
        T.row("hay(2)", x, 3 + 6 + 2);
        T.due("hay(4)", x.hay(4), 4);
        T.row("hay(4)", x, 1 + 4 + 0);
        T.due("hay(6): 0 has 4 and 1 of its own", x.hay(6), 5);
        T.row("hay(6)", x, 2);
        T.due("hay(8)", x.hay(8), 7);
        T.row("hay(8)", x, 0);
        T.due("hay(60)", x.hay(60), 7);
        T.due("hay(61)", x.hay(61), -1);
        T.due("hay(-1)", x.hay(-1), -1);
    }

    private static void works() {
        SnowForSummer x = Checks.debts(3, 0, 2, 3, 0, 1, 2, 2, 0, 70);
        int[] where = {1, 1, 2, 2, 2, 0, 0};
        int[] left = {2, 1, 3, 2, 1, 60, 60};
        for (int i = 0; i < where.length; i++) {
            T.due("works(0, " + (i + 1) + ")", x.works(0, i + 1), where[i]);
            T.row("works(0, " + (i + 1) + ")", x, left[i]);
        }
        T.due("works(2, 60)", x.works(2, 60), 0);
        T.row("works(2, 60)", x, 11);
        T.due("works(1, 1)", x.works(1, 1), 1);
        T.row("works(1, 1)", x, 60);
        T.due("day 0", x.works(0, 0), -1);
        T.due("day 61", x.works(0, 61), -1);
        T.due("none such", x.works(3, 1), -1);
        T.due("none such below 0", x.works(-1, 1), -1);
    }

    private static void summer() {
        SnowForSummer x = Checks.debts(2);
        T.due("no HAY", x.summer(), 0);
        x.set(0, 6, 5);
        T.due("its own work", x.summer(), 5);
        Checks.owe(x, 0, 1, 55);
        T.due("by 60", x.summer(), 60);
        Checks.owe(x, 0, 1, 1);
        T.due("not by 60", x.summer(), -2);
        Checks.owe(x, 1, 0, 3);
        T.due("3 worked by another one", x.summer(), 58);
    }
}
