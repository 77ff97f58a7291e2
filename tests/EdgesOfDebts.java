/** The edges that promises 23 to 33 name: rings of debts, evening out, June. */
public final class EdgesOfDebts {
    private static final Edges E = new Edges(23, 33);
    private static final int[] NO_HOUSE_OF_TWO = {2, 6, 7, -1, Integer.MIN_VALUE, Integer.MAX_VALUE};
    private static final int[] NOT_0_TO_60 = {61, -1, Integer.MIN_VALUE, Integer.MAX_VALUE};

    public static void main(String[] args) {
        ring();
        cancel();
        rings();
        net();
        least();
        even();
        evenMost();
        debtor();
        june();
        hay();
        works();
        summer();
        seven();
        E.finish();
    }

    private static void ring() {
        E.promise(23, "the shortest ring of DEBTS (each owes the next, the last the first)", t -> {
            SnowForSummer x = Checks.debts(4, 0, 1, 5, 1, 2, 6, 2, 0, 7, 2, 3, 8, 3, 2, 9);
            t.due("two, though of greater numbers", x.ring(), 2);
            t.row("two", x, 2, 3, 8);
            x.work(3, 2, 9);
            t.due("three", x.ring(), 3);
            t.row("three", x, 0, 1, 2, 5);
        });
        E.promise(23, "of as short ones the least row of HOUSES", t -> {
            SnowForSummer x = Checks.debts(4, 2, 3, 1, 3, 2, 1, 1, 3, 2, 3, 1, 2, 0, 3, 3, 3, 0, 3);
            t.due("three pairs", x.ring(), 2);
            t.row("0 3 ahead of 1 3, 2 3", x, 0, 3, 3);
            SnowForSummer y = Checks.debts(4, 0, 3, 1, 3, 1, 1, 1, 0, 1, 0, 2, 1, 2, 3, 1, 3, 0, 1);
            t.due("0 3 is a pair", y.ring(), 2);
            y.work(0, 3, 1);
            t.due("0 2 3", y.ring(), 3);
            t.row("0 2 3", y, 0, 2, 3, 1);
            SnowForSummer z = Checks.debts(4, 0, 3, 1, 3, 1, 1, 1, 0, 1, 0, 1, 1, 1, 3, 1, 3, 2, 1, 2, 0, 1);
            t.due("0 1 is a pair", z.ring(), 2);
            t.row("0 1 ahead of 1 3", z, 0, 1, 1);
        });
        E.promise(23, "begun with its least", t -> {
            SnowForSummer x = Checks.debts(7, 6, 2, 4, 2, 5, 3, 5, 6, 9);
            t.due("three", x.ring(), 3);
            t.row("2 5 6", x, 2, 5, 6, 3);
        });
        E.promise(23, "HOUSES in the ring: seven at most", t -> {
            SnowForSummer x = Checks.debts(7, 0, 2, 9, 2, 4, 9, 4, 6, 9, 6, 1, 9, 1, 3, 9, 3, 5, 9, 5, 0, 8);
            t.due("all", x.ring(), 7);
            t.row("all", x, 0, 2, 4, 6, 1, 3, 5, 8);
            SnowForSummer y = Checks.debts(7, 0, 1, 2, 1, 2, 2, 2, 3, 2, 3, 4, 2, 4, 5, 2, 5, 6, 2, 6, 0, 1);
            t.due("all, by numbers", y.ring(), 7);
            t.row("all, by numbers", y, 0, 1, 2, 3, 4, 5, 6, 1);
            t.due("cleared", y.cancel(), 7);
            t.due("6 owes 0 nothing", y.debt(6, 0), 0);
            t.due("5 owes 6", y.debt(5, 6), 1);
        });
        E.promise(23, "the least DAYS owed in it", t -> {
            SnowForSummer x = Checks.debts(3, 0, 1, 9999, 1, 2, 9999, 2, 0, 9999);
            x.ring();
            t.row("9999", x, 0, 1, 2, 9999);
            x.work(1, 2, 1);
            x.ring();
            t.row("one less", x, 0, 1, 2, 9998);
        });
        E.promise(23, "-2: there is none", t -> {
            SnowForSummer x = Checks.debts(4, 0, 1, 5, 1, 2, 6, 0, 2, 7, 3, 2, 8);
            x.above(0);
            Edges.idle(t, "no ring", x, -2, x::ring);
            SnowForSummer none = Checks.debts(2);
            Edges.idle(t, "no DEBTS", none, -2, none::ring);
        });
    }

    private static void cancel() {
        E.promise(24, "each owes so many DAYS less as the least does: how many DAYS less in all", t -> {
            SnowForSummer x = Checks.debts(3, 0, 1, 5, 1, 2, 6, 2, 0, 7);
            t.due("three times 5", x.cancel(), 15);
            t.due("0 owes 1", x.debt(0, 1), 0);
            t.due("1 owes 2", x.debt(1, 2), 1);
            t.due("2 owes 0", x.debt(2, 0), 2);
        });
        E.promise(24, "The ring that ring() tells: one alone", t -> {
            SnowForSummer x = Checks.debts(4, 0, 1, 4, 1, 0, 4, 2, 3, 6, 3, 2, 6);
            t.due("the first pair", x.cancel(), 8);
            t.due("the other pair stays", x.debt(2, 3), 6);
            t.due("the other pair", x.cancel(), 12);
            t.due("2 owes 3 nothing", x.debt(2, 3), 0);
            t.due("3 owes 2 nothing", x.debt(3, 2), 0);
        });
        E.promise(24, "-2: there is none", t -> {
            SnowForSummer x = Checks.debts(3, 0, 1, 5, 1, 2, 6);
            Edges.idle(t, "cancel", x, -2, x::cancel);
        });
    }

    private static void rings() {
        E.promise(25, "one behind the other, till there is none: how many rings", t -> {
            SnowForSummer x = Checks.debts(3, 0, 1, 5, 1, 0, 2, 1, 2, 4, 2, 0, 6);
            t.due("two rings", x.rings(), 2);
            t.row("how many DAYS less in all", x, 2 * 2 + 3 * 3);
            t.due("none is left", x.ring(), -2);
            t.due("one to undo: all of them", x.undo() >= 0 && x.debt(1, 0) == 2, true);
        });
        E.promise(25, "how many rings: 0, if there is none", t -> {
            SnowForSummer x = Checks.debts(3, 0, 1, 5, 1, 2, 6);
            int kept = x.count(6);
            t.due("rings", x.rings(), 0);
            t.row("rings", x, 0);
            t.due("nothing more to undo", x.count(6), kept);
        });
        E.promise(25, "Rings: of all pairs of seven", t -> {
            SnowForSummer x = new SnowForSummer();
            Checks.put(x, Edges.times(6, "1,00;") + "1,00").town();
            for (int from = 0; from < 7; from++) {
                for (int to = 0; to < 7; to++) {
                    x.set(from, 1, 1 + from + to);
                    x.set(from, 4, to);
                    x.loose(from, 2 * from);
                }
            }
            t.due("21 pairs", x.rings(), 21);
            int days = x.row(0);
            t.due("nothing is owed any more", x.count(4), 0);
            for (int house = 0; house < 7; house++) {
                t.due(house + " owes nothing", x.of(house, 7), 0);
                t.due(house + " is owed nothing", x.of(house, 8), 0);
            }
            x.undo();
            t.due("as many as were owed", x.count(4), days);
        });
    }

    private static void net() {
        E.promise(26, "What a HOUSE is owed, less what it owes", t -> {
            SnowForSummer x = Checks.debts(3, 0, 1, 5, 1, 2, 5, 2, 1, 9);
            t.due("below 0", x.net(0), -5);
            t.due("above 0", x.net(1), 9);
            t.due("behind", x.net(2), -4);
            t.due("even", Checks.debts(2, 0, 1, 3, 1, 0, 3).net(0), 0);
        });
        E.promise(26, "NoSuchElementException: none such", t -> {
            SnowForSummer x = Checks.debts(2, 0, 1, 5);
            for (int house : NO_HOUSE_OF_TWO) {
                Edges.idleThrow(t, "net(" + house + ")", x, () -> x.net(house));
            }
        });
    }

    private static void least() {
        E.promise(27, "The fewest DAYS with which all could be even", t -> {
            SnowForSummer x = Checks.debts(3, 0, 1, 5, 1, 2, 5);
            t.due("0 could work for 2", x.least(), 5);
            t.row("how many are owed now", x, 10);
            SnowForSummer y = Checks.debts(3, 0, 1, 5, 1, 2, 5, 2, 0, 5);
            t.due("all are even", y.least(), 0);
            t.row("though 15 are owed", y, 15);
            SnowForSummer z = Checks.debts(2);
            t.due("no DEBTS", z.least(), 0);
            t.row("no DEBTS", z, 0);
            SnowForSummer w = Checks.debts(7, 6, 0, 5, 0, 6, 1);
            t.due("the first of seven is ahead", w.least(), 4);
            Checks.owe(w, 0, 6, 10);
            t.due("the last of seven is ahead", w.least(), 6);
        });
    }

    private static void even() {
        E.promise(28, "the first HOUSE that is behind owes the first one that is ahead as much as can be", t -> {
            SnowForSummer x = Checks.debts(4, 1, 0, 3, 1, 2, 4, 3, 2, 5, 3, 0, 1);
            t.due("even", x.even(), 3);
            t.row("none less", x, 0);
            t.due("1 owes 0", x.debt(1, 0), 4);
            t.due("1 owes 2", x.debt(1, 2), 3);
            t.due("3 owes 2", x.debt(3, 2), 6);
        });
        E.promise(28, "how many DEBTS there are then; how many DAYS less in all", t -> {
            SnowForSummer x = Checks.debts(3, 0, 1, 5, 1, 2, 5, 2, 0, 5);
            t.due("all are even", x.even(), 0);
            t.row("all are even", x, 15);
            t.due("nothing is owed", x.count(4), 0);
            SnowForSummer one = Checks.debts(7, 6, 0, 1);
            t.due("one DAY", one.even(), 1);
            t.due("one DAY of the last of seven", one.debt(6, 0), 1);
            t.due("even again", x.even(), 0);
            t.row("even again", x, 0);
        });
        E.promise(28, "(It can be undone, always.)", t -> {
            SnowForSummer x = Checks.town("5,00;5,00");
            t.due("no DEBTS", x.even(), 0);
            t.due("one to undo", x.count(6), 1);
            x.even();
            t.due("undo", x.undo(), 1);
            t.due("undo again", x.undo(), 0);
        });
    }

    private static SnowForSummer oweMuch(int... pairs) {
        SnowForSummer x = Checks.town("1,00;1,00;1,00;1,00;1,00", "9", "99");
        for (int i = 0; i < pairs.length; i += 2) {
            for (int house = 0; house < 5; house++) {
                int below = house == pairs[i] ? pairs[i + 1] : house;
                x.set(house, 4, below);
                x.set(house, 5, below);
            }
            x.days(60);
        }
        return x;
    }

    private static void evenMost() {
        E.promise(28, "9999 at most to one; what is more, to the next one that is ahead", t -> {
            SnowForSummer x = oweMuch(0, 1, 0, 2, 1, 2, 0, 3);
            t.due("0 is behind by", x.net(0), -3 * 9999);
            t.due("2 is ahead by", x.net(2), 2 * 9999);
            t.due("even", x.even(), 2);
            t.due("9999 at most to one", x.debt(0, 2), 9999);
            t.due("what is more, to the next", x.debt(0, 3), 9999);
            t.row("how many DAYS less", x, 4 * 9999 - 2 * 9999);
        });
        E.promise(28, "each HOUSE being owed, less what it owes, as much as ahead", t -> {
            SnowForSummer x = oweMuch(0, 1, 2, 1, 3, 4, 0, 4);
            int[] net = new int[5];
            for (int house = 0; house < 5; house++) {
                net[house] = x.net(house);
            }
            t.due("even", x.even(), 4);
            for (int house = 0; house < 5; house++) {
                t.due("net(" + house + ")", x.net(house), net[house]);
            }
            t.due("0 owes 1", x.debt(0, 1), 9999);
            t.due("0 owes 4", x.debt(0, 4), 9999);
        });
    }

    private static void debtor() {
        E.promise(29, "of equal ones the first", t -> {
            SnowForSummer x = Checks.debts(4, 1, 0, 5, 2, 0, 2, 2, 3, 3);
            t.due("1", x.debtor(), 1);
            t.row("1", x, 5, 1);
            x.work(1, 0, 1);
            t.due("2 owes more", x.debtor(), 2);
            t.row("2 owes more, to two", x, 5, 2);
        });
        E.promise(29, "-2: nobody owes", t -> {
            SnowForSummer x = Checks.debts(3);
            x.above(0);
            Edges.idle(t, "debtor", x, -2, x::debtor);
            Checks.owe(x, 2, 1, 1);
            t.due("one DAY", x.debtor(), 2);
            t.row("one DAY", x, 1, 1);
        });
    }

    private static void june() {
        E.promise(30, "The fewest days of June in which all DEBTS can be worked", t -> {
            SnowForSummer x = Checks.debts(3, 0, 1, 9999, 0, 2, 2, 1, 0, 50);
            t.due("more than 60, too", x.june(), 10001);
            t.row("0 needs so many", x, 0);
        });
        E.promise(30, "the first HOUSE that needs so many", t -> {
            SnowForSummer x = Checks.debts(3, 1, 0, 5, 2, 0, 5);
            t.due("june", x.june(), 5);
            t.row("june", x, 1);
        });
        E.promise(30, "(NONE for 0)", t -> {
            SnowForSummer x = Checks.debts(3);
            t.due("june", x.june(), 0);
            t.row("june", x, -1);
        });
    }

    private static void hay() {
        E.promise(31, "behind n days of June (0 .. 60)", t -> {
            SnowForSummer x = Checks.debts(2, 0, 1, 55);
            x.set(0, 6, 5);
            t.due("hay(0): who wants none", x.hay(0), 2);
            t.row("hay(0)", x, 5);
            t.due("hay(59)", x.hay(59), 2);
            t.row("hay(59)", x, 1);
            t.due("hay(60)", x.hay(60), 3);
            t.row("hay(60)", x, 0);
        });
        E.promise(31, "is HAY or more", t -> {
            SnowForSummer x = Checks.debts(2);
            x.set(0, 6, 30);
            x.set(1, 6, 29);
            t.due("29", x.hay(29), 2);
            t.row("29", x, 1);
            t.due("30", x.hay(30), 3);
            t.row("30: what is more does not count below 0", x, 0);
        });
        E.promise(31, "what others worked there, and it itself (behind what it owes)", t -> {
            SnowForSummer x = Checks.debts(3, 0, 1, 2, 2, 0, 3);
            x.set(0, 6, 6);
            t.due("4: three of 2, two of its own", x.hay(4), 6);
            t.row("4", x, 1);
            t.due("5", x.hay(5), 7);
        });
        E.promise(31, "others work for the least HOUSES they owe first", t -> {
            SnowForSummer x = Checks.debts(3, 2, 1, 2, 2, 0, 2);
            x.set(0, 6, 4);
            x.set(1, 6, 4);
            x.hay(2);
            t.due("two days at 0: all in there", x.hay(2), 1 + 4);
            t.row("1 has its own two alone", x, 2);
        });
        E.promise(31, "NONE: another n", t -> {
            SnowForSummer x = Checks.debts(2, 0, 1, 5);
            x.hay(1);
            for (int n : NOT_0_TO_60) {
                Edges.idle(t, "hay(" + n + ")", x, -1, () -> x.hay(n));
            }
        });
    }

    private static void works() {
        E.promise(32, "on day n of June (1 .. 60)", t -> {
            SnowForSummer x = Checks.debts(2, 1, 0, 60);
            t.due("day 1", x.works(1, 1), 0);
            t.row("day 1", x, 60);
            t.due("day 60", x.works(1, 60), 0);
            t.row("day 60: this one counted", x, 1);
            for (int n : new int[] {0, 61, -1, Integer.MIN_VALUE, Integer.MAX_VALUE}) {
                Edges.idle(t, "works(1, " + n + ")", x, -1, () -> x.works(1, n));
            }
        });
        E.promise(32, "itself, if it owes no more then (60: in its own hay)", t -> {
            SnowForSummer x = Checks.debts(2, 1, 0, 4);
            t.due("day 4", x.works(1, 4), 0);
            t.row("day 4", x, 1);
            t.due("day 5", x.works(1, 5), 1);
            t.row("day 5", x, 60);
            t.due("day 60", x.works(1, 60), 1);
            t.row("day 60", x, 60);
            t.due("who never owed", x.works(0, 1), 0);
            t.row("who never owed", x, 60);
        });
        E.promise(32, "how many days more (this one counted) it works there", t -> {
            SnowForSummer x = Checks.debts(4, 1, 3, 2, 1, 0, 3);
            int[] where = {0, 0, 0, 3, 3, 1};
            int[] more = {3, 2, 1, 2, 1, 60};
            for (int day = 1; day <= 6; day++) {
                t.due("day " + day, x.works(1, day), where[day - 1]);
                t.row("day " + day, x, more[day - 1]);
            }
        });
        E.promise(32, "NONE: others", t -> {
            SnowForSummer x = Checks.debts(2, 1, 0, 4);
            x.works(1, 1);
            for (int house : NO_HOUSE_OF_TWO) {
                Edges.idle(t, "works(" + house + ", 1)", x, -1, () -> x.works(house, 1));
            }
        });
    }

    private static void summer() {
        E.promise(33, "The fewest days of June (0 .. 60) by which all HAY is in", t -> {
            SnowForSummer x = Checks.debts(2, 0, 1, 30);
            t.due("no HAY", x.summer(), 0);
            x.set(0, 6, 1);
            t.due("one", x.summer(), 31);
            x.set(0, 6, 30);
            t.due("60", x.summer(), 60);
            t.due("no DEBTS", withHay(30).summer(), 30);
        });
        E.promise(33, "-2: not by 60", t -> {
            SnowForSummer x = Checks.debts(2, 0, 1, 31);
            x.set(0, 6, 30);
            x.above(0);
            Edges.idle(t, "61 are needed", x, -2, x::summer);
            x.set(0, 6, 29);
            t.due("60 are", x.summer(), 60);
        });
    }

    private static void seven() {
        E.promise(29, "The HOUSE that owes the most: the last of seven", t -> {
            SnowForSummer x = Checks.debts(7, 0, 6, 4, 6, 5, 5);
            t.due("debtor", x.debtor(), 6);
            t.row("debtor", x, 5, 1);
        });
        E.promise(29, "to how many HOUSES: its own DEBTS alone", t -> {
            SnowForSummer x = Checks.debts(7, 0, 6, 4, 1, 0, 5);
            t.due("1", x.debtor(), 1);
            t.row("1 owes one, though 0 owes 6", x, 5, 1);
            for (int to = 1; to < 6; to++) {
                Checks.owe(x, 0, to, to);
            }
            t.due("0", x.debtor(), 0);
            t.row("0 owes all the others", x, 4 + 15, 6);
        });
        E.promise(30, "the first HOUSE that needs so many: the last of seven", t -> {
            SnowForSummer x = Checks.debts(7, 0, 6, 4, 6, 5, 5);
            t.due("june", x.june(), 5);
            t.row("june", x, 6);
        });
        E.promise(31, "HOUSES whose HAY is in: of seven", t -> {
            SnowForSummer x = Checks.debts(7, 0, 6, 4, 6, 5, 5);
            for (int house = 0; house < 7; house++) {
                x.set(house, 6, 6);
            }
            t.due("hay(6)", x.hay(6), 2 + 4 + 8 + 16 + 32);
            t.row("hay(6): 0 has two, 6 has five", x, 4 + 1);
        });
        E.promise(32, "For which HOUSE one works: the last of seven", t -> {
            SnowForSummer x = Checks.debts(7, 0, 6, 4, 6, 5, 5);
            t.due("for 6", x.works(0, 4), 6);
            t.due("6 for 5", x.works(6, 5), 5);
            t.due("6 for itself", x.works(6, 6), 6);
            t.row("6 for itself", x, 60);
        });
        E.promise(33, "by which all HAY is in: of seven", t -> {
            SnowForSummer x = Checks.debts(7, 0, 6, 4, 6, 5, 5);
            x.set(6, 6, 6);
            t.due("5 owed, two of its own", x.summer(), 7);
        });
    }

    private static SnowForSummer withHay(int hay) {
        SnowForSummer x = Checks.debts(1);
        x.set(0, 6, hay);
        return x;
    }
}
