/** The edges that promises 44 to 51 name: hands, roofs, premiums. */
public final class EdgesOfHands {
    private static final Edges E = new Edges(44, 51);
    private static final int[] NO_HOUSE_OF_TWO = {2, 6, 7, -1, Integer.MIN_VALUE, Integer.MAX_VALUE};
    private static final int[] NO_SIDE_OF_FOUR = {4, 13, 14, -1, Integer.MIN_VALUE, Integer.MAX_VALUE};
    private static final int[] NOT_0_TO_60 = {61, -1, Integer.MIN_VALUE, Integer.MAX_VALUE};
    private static final int[] NOT_1_TO_3 = {0, 4, -1, Integer.MIN_VALUE, Integer.MAX_VALUE};
    private static final int[] NOT_1_TO_99 = {0, 100, -1, Integer.MIN_VALUE, Integer.MAX_VALUE};
    /** 29 days of nothing, then one inch: of 60 days the thirtieth and the sixtieth. */
    private static final String LATE = Edges.times(29, "0") + "1";

    public static void main(String[] args) {
        best();
        bestHands();
        own();
        better();
        rests();
        restsRounds();
        rough();
        turned();
        needs();
        premium();
        nothingChanges();
        E.finish();
    }

    private static SnowForSummer two() {
        SnowForSummer x = Checks.town("5,11;5,00", "3");
        x.set(0, 1, 4);
        x.set(1, 1, 5);
        x.later(0, 0);
        return x;
    }

    private static void best() {
        E.promise(44, "in the next n DAYS (1 .. 3)", t -> {
            SnowForSummer x = Checks.town("9,11;9,00");
            t.due("one", x.best(1, 1), 0);
            t.row("one", x, 14);
            t.due("three", x.best(3, 1), 0);
            t.row("three", x, 14, 14, 14);
            for (int n : NOT_1_TO_3) {
                Edges.idle(t, "best(" + n + ", 1)", x, -1, () -> x.best(n, 1));
            }
        });
        E.promise(44, "from one SIDE that has SNOW, or none", t -> {
            SnowForSummer x = Checks.town("9,11;9,00");
            x.set(1, 2, 5);
            t.due("SIDE 3 alone has SNOW", x.best(1, 9), 0);
            t.row("SIDE 3 alone has SNOW", x, 3);
            t.due("what was swept can be swept back", x.best(2, 9), 0);
            t.row("what was swept can be swept back", x, 2 + 1, 2);
        });
        E.promise(44, "(14: none): of as few the least row", t -> {
            SnowForSummer x = Checks.town("5,16;5,66", "", "50*(h=0)");
            x.set(0, 1, 5);
            x.set(0, 2, 6);
            t.due("no sweeping of SIDE 0: 6 slide to nobody", x.best(1, 1), 0);
            t.row("SIDE 0 is the least all the same", x, 0);
            SnowForSummer y = Checks.town("5,11;5,66", "3");
            y.set(0, 1, 2);
            y.set(0, 2, 2);
            t.due("none", y.best(1, 2), 0);
            t.row("sweeping 0 or 1 would owe", y, 14);
            y.set(1, 1, 1);
            y.best(1, 2);
            t.row("sweeping 2 is less than none", y, 2);
        });
        E.promise(44, "swept from one SIDE: to the other (999 at most)", t -> {
            SnowForSummer x = Checks.town("99,16;99,00", "", "d-950");
            x.set(0, 1, 999);
            x.set(0, 2, 999);
            t.due("SIDE 1 is swept to SIDE 0", x.best(1, 40), 9);
            t.row("from 0 to 1, that slides to nobody", x, 0);
        });
    }

    private static void bestHands() {
        E.promise(44, "as many inches as are there, 'hands' (1 .. 99) at most", t -> {
            SnowForSummer x = Checks.town("5,11;5,66", "3");
            x.set(0, 1, 4);
            t.due("one is not enough", x.best(1, 1), 6);
            t.due("two are", x.best(1, 2), 0);
            t.row("two are", x, 0);
            t.due("three are too many: they slide from the other SIDE", x.best(1, 3), 6);
            t.row("three are too many, but better than none", x, 0);
            x.set(0, 1, 2);
            x.set(0, 2, 0);
            t.due("99 hands move the two that are there", x.best(1, 99), 0);
            t.row("99 hands", x, 0);
            for (int hands : NOT_1_TO_99) {
                Edges.idle(t, "best(1, " + hands + ")", x, -1, () -> x.best(1, hands));
            }
        });
        E.promise(44, "ahead of each of them", t -> {
            SnowForSummer x = Checks.town("5,11;5,66", "3");
            x.set(0, 1, 4);
            t.due("sweeping first, both would slide in the second DAY", x.best(2, 2), 7);
            t.row("7 slide in the first, then 3 are parted", x, 14, 1);
        });
    }

    private static void own() {
        E.promise(45, "what it itself comes to owe, sweeping its own roof", t -> {
            SnowForSummer x = two();
            t.due("0 alone", x.own(0, 1, 2), 0);
            t.row("its own SIDE", x, 0);
            x.set(1, 1, 4);
            t.due("1 alone", x.own(1, 1, 2), 0);
            t.row("its own SIDE 2", x, 2);
            x.set(1, 1, 0);
            t.due("no SNOW on its own roof", x.own(1, 1, 9), 0);
            t.row("14: none", x, 14);
        });
        E.promise(45, "NONE: others", t -> {
            SnowForSummer x = two();
            for (int house : NO_HOUSE_OF_TWO) {
                Edges.idle(t, "HOUSE " + house, x, -1, () -> x.own(house, 1, 1));
            }
            for (int n : NOT_1_TO_3) {
                Edges.idle(t, "n " + n, x, -1, () -> x.own(0, n, 1));
            }
            for (int hands : NOT_1_TO_99) {
                Edges.idle(t, "hands " + hands, x, -1, () -> x.own(0, 1, hands));
            }
            t.due("three nights, 99 hands", x.own(0, 3, 99) >= 0, true);
            t.due("three numbers", x.count(8), 3);
        });
    }

    private static void better() {
        E.promise(46, "1, if it comes to owe less in all so, 0: not", t -> {
            SnowForSummer x = two();
            t.due("4 is less than 7", x.better(0, 1), 1);
            t.row("4 is less than 7", x, 4, 7);
            Checks.put(x, "d+3*x").rule();
            t.due("7 is not less than 7", x.better(0, 1), 0);
            t.row("7 is not less than 7", x, 7, 7);
        });
        E.promise(46, "let it lie for n DAYS (1 .. 60)", t -> {
            SnowForSummer x = Checks.town("5,11;5,00", LATE);
            x.set(0, 1, 4);
            t.due("59: it would lie", x.better(0, 59), 0);
            t.row("59", x, 4, 0);
            t.due("60: 6 would slide", x.better(0, 60), 1);
            t.row("60", x, 4, 6);
            for (int n : new int[] {0, 61, -1, Integer.MIN_VALUE, Integer.MAX_VALUE}) {
                Edges.idle(t, "better(0, " + n + ")", x, -1, () -> x.better(0, n));
            }
        });
        E.promise(46, "-2: no SNOW lies there", t -> {
            SnowForSummer x = two();
            Edges.idle(t, "better(1, 1)", x, -2, () -> x.better(1, 1));
            x.set(0, 2, 1);
            t.due("one inch", x.better(1, 1), 0);
        });
        E.promise(46, "NONE: others", t -> {
            SnowForSummer x = two();
            for (int side : NO_SIDE_OF_FOUR) {
                Edges.idle(t, "better(" + side + ", 1)", x, -1, () -> x.better(side, 1));
            }
            Edges.idle(t, "without SNOW, and another n", x, -1, () -> x.better(1, 0));
        });
    }

    private static void rests() {
        E.promise(47, "round by round (m at most, 0 .. 20)", t -> {
            SnowForSummer x = two();
            t.due("0", x.rests(1, 0), 0);
            t.row("0", x, 0, 0);
            t.due("1: none to see that it rests", x.rests(1, 1), 1);
            t.row("1", x, 0, 1 + 4);
            t.due("2", x.rests(1, 2), 2);
            t.row("2", x, 1, 1 + 4);
            t.due("20", x.rests(1, 20), 2);
            for (int m : new int[] {21, -1, Integer.MIN_VALUE, Integer.MAX_VALUE}) {
                Edges.idle(t, "rests(1, " + m + ")", x, -1, () -> x.rests(1, m));
            }
        });
        E.promise(47, "for n DAYS (1 .. 30)", t -> {
            SnowForSummer x = Checks.town("5,11;5,00", LATE);
            x.set(0, 1, 5);
            x.least();
            t.due("29: it would lie", x.rests(29, 20), 1);
            t.row("29", x, 1, 0);
            t.due("30: 6 would slide", x.rests(30, 20), 2);
            t.row("30", x, 1, 1);
            for (int n : new int[] {0, 31, -1, Integer.MIN_VALUE, Integer.MAX_VALUE}) {
                Edges.idle(t, "rests(" + n + ", 1)", x, -1, () -> x.rests(n, 1));
            }
        });
        E.promise(47, "Nothing changes", t -> {
            SnowForSummer x = two();
            String was = Edges.image(x);
            x.rests(1, 20);
            x.later(0, 0);
            t.due("all as ahead", Edges.image(x).equals(was), true);
        });
    }

    private static void restsRounds() {
        E.promise(47, "till in a whole round none does: how many rounds (that last one, too)", t -> {
            SnowForSummer x = Checks.town("5,11;5,00");
            x.set(0, 1, 5);
            t.due("the first round is the last", x.rests(1, 20), 1);
            t.row("nothing slides by itself", x, 1, 0);
        });
        E.promise(47, "HOUSES by numbers, round by round: one waits for another", t -> {
            // What slides onto 2 owes 20, set off 25 less what lies there: 0 waits till 1 has set off its own.
            SnowForSummer x = Checks.town("5,22;5,02;5,22", "", "20+5*x-p*x");
            x.set(0, 1, 9);
            x.set(1, 2, 9);
            x.set(2, 3, 4);
            t.due("none begins", x.rests(1, 20), 1);
            t.row("none begins", x, 1, 0);
            x.set(2, 3, 6);
            t.due("both in one round", x.rests(1, 20), 2);
            t.row("both in one round", x, 1, 1 + 8);
            Checks.put(x, "20+5*x-p*x-2*h*x").rule();
            x.set(2, 3, 4);
            t.due("1 in the first, 0 in the second", x.rests(1, 20), 3);
            t.row("1 in the first, 0 in the second", x, 1, 1 + 8);
            t.due("two rounds alone", x.rests(1, 2), 2);
            t.row("two rounds alone", x, 0, 1 + 8);
            t.due("one round alone", x.rests(1, 1), 1);
            t.row("one round alone", x, 0, 8);
        });
        E.promise(47, "those of its SIDES that better() tells: of one inch, too", t -> {
            SnowForSummer x = Checks.town("5,11;5,00", "9");
            x.set(0, 1, 1);
            Checks.put(x, "d*(d>9)").rule();
            t.due("1 now and 9 then, or 10", x.rests(1, 20), 2);
            t.row("one inch", x, 1, 1);
            Checks.put(x, "7").rule();
            t.due("7 now and 7 then, or 7", x.rests(1, 20), 1);
            t.row("not less", x, 1, 0);
            Checks.put(x, "7*(d>9)+7*x").rule();
            t.due("7 now, or 7: not less", x.rests(1, 20), 1);
            t.row("7 now, or 7", x, 1, 0);
        });
        E.promise(47, "SIDES set off (bits): all of seven", t -> {
            SnowForSummer x = Checks.town("5,11;5,22;5,33;5,44;5,55;5,66;5,00", "9", "9*(d>9)");
            x.sheet(2, 14, 2, 0);
            t.due("all in one round", x.rests(1, 20), 2);
            t.row("all", x, 1, (1 << 14) - 1);
        });
        E.promise(47, "SIDE 0 first", t -> {
            SnowForSummer x = Checks.town("5,11;5,11", "", "20+5*x-p*x");
            x.set(0, 1, 9);
            x.set(0, 2, 9);
            x.set(1, 3, 6);
            t.due("SIDE 0, then by what lies there SIDE 1", x.rests(1, 20), 2);
            t.row("both", x, 1, 3);
        });
    }

    private static void rough() {
        E.promise(48, "HOLD being v (1 .. 99)", t -> {
            SnowForSummer x = two();
            t.due("99", x.rough(99, 1), 1);
            t.row("99", x, 7);
            t.due("1", x.rough(1, 1), 0);
            t.row("1: 7 and 3, and 8", x, 18);
            for (int v : NOT_1_TO_99) {
                Edges.idle(t, "rough(" + v + ", 1)", x, -1, () -> x.rough(v, 1));
            }
        });
        E.promise(48, "of equal ones the first", t -> {
            SnowForSummer x = two();
            t.due("as it is", x.rough(5, 1), 0);
            t.row("as it is", x, 15);
        });
        E.promise(48, "in the next n DAYS (0 .. 60)", t -> {
            SnowForSummer x = Checks.town("5,11;5,00", LATE);
            x.set(0, 1, 4);
            x.set(1, 1, 4);
            t.due("rough(6, 0)", x.rough(6, 0), 0);
            t.row("rough(6, 0)", x, 0);
            t.due("rough(9, 60)", x.rough(9, 60), 0);
            t.row("rough(9, 60)", x, 6);
            for (int n : NOT_0_TO_60) {
                Edges.idle(t, "rough(5, " + n + ")", x, -1, () -> x.rough(5, n));
            }
        });
        E.promise(48, "-2: no HOUSES", t -> {
            SnowForSummer x = new SnowForSummer();
            x.least();
            Edges.idle(t, "rough(1, 0)", x, -2, () -> x.rough(1, 0));
            Edges.idle(t, "NONE: others", x, -1, () -> x.rough(0, 0));
        });
    }

    private static void turned() {
        E.promise(49, "likewise: of equal ones the first", t -> {
            SnowForSummer x = Checks.town("5,01;5,10;50,00", "3");
            x.set(0, 2, 4);
            x.set(1, 2, 4);
            t.due("0 and 1 alike", x.turned(1), 0);
            t.row("0 and 1 alike", x, 7);
            x.set(1, 2, 5);
            t.due("1 had more", x.turned(1), 1);
            t.row("1 had more", x, 7);
        });
        E.promise(49, "likewise: n DAYS (0 .. 60)", t -> {
            SnowForSummer x = Checks.town("5,11;5,10", LATE);
            x.set(1, 2, 4);
            t.due("turned(0)", x.turned(0), 0);
            t.row("turned(0)", x, 0);
            t.due("turned(60)", x.turned(60), 1);
            t.row("turned(60)", x, 0);
            for (int n : NOT_0_TO_60) {
                Edges.idle(t, "turned(" + n + ")", x, -1, () -> x.turned(n));
            }
        });
        E.promise(49, "likewise: -2: no HOUSES", t -> {
            SnowForSummer x = new SnowForSummer();
            x.least();
            Edges.idle(t, "turned(0)", x, -2, () -> x.turned(0));
            Edges.idle(t, "NONE: others", x, -1, () -> x.turned(61));
        });
    }

    private static void needs() {
        E.promise(50, "The least HOLD (1 .. 99)", t -> {
            SnowForSummer x = Checks.town("5,11;5,00");
            t.due("1", x.needs(0, 60), 1);
            x.set(0, 1, 1);
            t.due("1 holds one", x.needs(0, 60), 1);
            x.set(0, 1, 2);
            t.due("2", x.needs(0, 60), 2);
            x.set(0, 1, 99);
            t.due("99", x.needs(0, 60), 99);
        });
        E.promise(50, "-2: with none", t -> {
            SnowForSummer x = Checks.town("5,11;5,00");
            x.set(0, 1, 100);
            x.least();
            Edges.idle(t, "100", x, -2, () -> x.needs(0, 1));
            t.due("in no DAY", x.needs(0, 0), 1);
        });
        E.promise(50, "itself comes to owe nothing in the next n DAYS (0 .. 60)", t -> {
            SnowForSummer x = Checks.town("5,11;5,00", "1");
            t.due("60", x.needs(0, 60), 60);
            t.due("59", x.needs(0, 59), 59);
            t.due("its own PATH needs none", Checks.town("5,00", "9").needs(0, 60), 1);
            for (int n : NOT_0_TO_60) {
                Edges.idle(t, "needs(0, " + n + ")", x, -1, () -> x.needs(0, n));
            }
        });
        E.promise(50, "NONE: others", t -> {
            SnowForSummer x = two();
            for (int house : NO_HOUSE_OF_TWO) {
                Edges.idle(t, "needs(" + house + ", 0)", x, -1, () -> x.needs(house, 0));
            }
        });
    }

    private static void premium() {
        E.promise(51, "(the first ones one more, if they can't be parted)", t -> {
            SnowForSummer x = Checks.town("5,11;50,00;50,00");
            int[][] pays = {{2, 2, 2}, {3, 2, 2}, {3, 3, 2}, {3, 3, 3}};
            for (int i = 0; i < pays.length; i++) {
                x.set(0, 1, 6 + i);
                t.due(6 + i + " DAYS", x.premium(1), 6 + i - pays[i][0]);
                t.row(6 + i + " DAYS", x, pays[i]);
            }
        });
        E.promise(51, "by how much the most that one pays so is less", t -> {
            SnowForSummer x = Checks.town("5,11;5,00", "", "1");
            x.sheet(2, 4, 6, 0);
            t.due("alike with and without", x.premium(1), 0);
            t.row("alike with and without", x, 2, 2);
            SnowForSummer one = Checks.town("5,66", "9");
            t.due("one HOUSE", one.premium(60), 0);
            t.row("one HOUSE", one, 0);
        });
        E.promise(51, "in the next n DAYS (0 .. 60)", t -> {
            SnowForSummer x = Checks.town("5,11;5,00", LATE);
            x.set(0, 1, 4);
            t.due("premium(0)", x.premium(0), 0);
            t.row("premium(0)", x, 0, 0);
            t.due("premium(60)", x.premium(60), 3);
            t.row("premium(60)", x, 3, 3);
        });
        E.promise(51, "NoSuchElementException: no HOUSES, another n", t -> {
            SnowForSummer none = new SnowForSummer();
            none.above(0);
            Edges.idleThrow(t, "no HOUSES", none, () -> none.premium(0));
            SnowForSummer x = two();
            for (int n : NOT_0_TO_60) {
                Edges.idleThrow(t, "premium(" + n + ")", x, () -> x.premium(n));
            }
        });
    }

    private static void nothingChanges() {
        E.promise(48, "if: HOLD, SIDES, SNOW are as they were behind the call", t -> {
            SnowForSummer x = two();
            x.days(2);
            x.least();
            String was = Edges.image(x);
            x.best(3, 9);
            x.own(0, 3, 9);
            x.better(0, 60);
            x.rough(9, 60);
            x.turned(60);
            x.needs(0, 60);
            x.premium(60);
            x.least();
            t.due("all as ahead", Edges.image(x).equals(was), true);
        });
    }
}
