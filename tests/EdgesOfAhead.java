/** The edges that promises 34 to 43 name: days to come, nobody lifting a hand. */
public final class EdgesOfAhead {
    private static final Edges E = new Edges(34, 43);
    private static final int[] NO_HOUSE_OF_THREE = {3, 6, 7, -1, Integer.MIN_VALUE, Integer.MAX_VALUE};
    private static final int[] NO_SIDE_OF_SIX = {6, 13, 14, -1, Integer.MIN_VALUE, Integer.MAX_VALUE};
    private static final int[] NOT_0_TO_60 = {61, -1, Integer.MIN_VALUE, Integer.MAX_VALUE};
    /** 29 days of nothing, then one inch: of 60 days the thirtieth and the sixtieth. */
    private static final String LATE = Edges.times(29, "0") + "1";

    public static void main(String[] args) {
        ahead();
        slides();
        later();
        deepest();
        lord();
        worst();
        melt();
        lazy();
        dig();
        digRefused();
        bare();
        nothingChanges();
        E.finish();
    }

    /** House 0 holds 5 above 1 and 2, house 1 holds 8 above 0 and itself, house 2 is above nobody. 3 a day. */
    private static SnowForSummer three() {
        return Checks.town("5,12;8,01;2,66", "3");
    }

    private static void ahead() {
        E.promise(34, "in the next n DAYS (0 .. 60)", t -> {
            SnowForSummer x = three();
            t.due("ahead(0)", x.ahead(0), 0);
            t.row("ahead(0)", x, 0, 0, 0, 0);
            t.due("ahead(60): 30 times 12, 20 times 9", x.ahead(60), 360 + 180);
            t.row("ahead(60)", x, 60 + 40 + 120, 360, 180, 0);
            for (int n : NOT_0_TO_60) {
                Edges.idle(t, "ahead(" + n + ")", x, -1, () -> x.ahead(n));
            }
        });
        E.promise(34, "by HOUSES what each comes to owe: not what it owes now", t -> {
            SnowForSummer x = three();
            x.days(2);
            t.due("owed now", x.of(0, 7), 12);
            t.due("ahead(1)", x.ahead(1), 9);
            t.row("ahead(1)", x, 4, 0, 9, 0);
            t.due("the same again", x.ahead(1), 9);
            t.row("the same again", x, 4, 0, 9, 0);
        });
        E.promise(34, "by HOUSES: seven of them", t -> {
            SnowForSummer x = Checks.town("1,11;1,00;1,00;1,00;1,00;1,00;1,05", "2", "d+h");
            t.due("ahead(1)", x.ahead(1), 4 + 6 + 8 + 10 + 12 + 14 + 8 + 8);
            t.row("ahead(1)", x, 14, 4, 6, 8, 10, 12, 14, 16);
        });
    }

    private static void slides() {
        E.promise(35, "After how many DAYS (1 .. 60) a SIDE slides first", t -> {
            SnowForSummer x = Checks.town("5,00;5,00;5,00", LATE);
            x.set(0, 1, 6);
            x.set(0, 2, 5);
            x.set(1, 1, 4);
            t.due("in the DAY that is now", x.slides(0), 1);
            t.due("in the thirtieth", x.slides(1), 30);
            t.due("in the sixtieth", x.slides(2), 60);
        });
        E.promise(35, "-2: not in these", t -> {
            SnowForSummer x = Checks.town("5,00;5,00;5,00", LATE);
            x.set(0, 1, 3);
            x.above(0);
            Edges.idle(t, "in the ninetieth", x, -2, () -> x.slides(0));
        });
        E.promise(35, "NONE: none such", t -> {
            SnowForSummer x = three();
            for (int side : NO_SIDE_OF_SIX) {
                Edges.idle(t, "slides(" + side + ")", x, -1, () -> x.slides(side));
            }
            t.due("the last that is there", x.slides(5), 1);
        });
    }

    private static void later() {
        E.promise(36, "SNOW of a SIDE n DAYS (0 .. 60) on", t -> {
            SnowForSummer x = Checks.town("99,00;99,00;99,00", "1");
            x.set(2, 2, 7);
            x.set(1, 3, 4);
            t.due("now", x.later(5, 0), 7);
            t.row("now", x, 0, 4, 0);
            t.due("60", x.later(5, 60), 67);
            t.row("60", x, 60, 64, 60);
            for (int n : NOT_0_TO_60) {
                Edges.idle(t, "later(0, " + n + ")", x, -1, () -> x.later(0, n));
            }
        });
        E.promise(36, "NONE: others", t -> {
            SnowForSummer x = three();
            x.later(0, 1);
            for (int side : NO_SIDE_OF_SIX) {
                Edges.idle(t, "later(" + side + ", 1)", x, -1, () -> x.later(side, 1));
            }
        });
    }

    private static void deepest() {
        E.promise(37, "(0: now)", t -> {
            SnowForSummer x = Checks.town("99,00;99,00;99,00", "b4");
            x.set(0, 3, 8);
            t.due("now", x.deepest(0, 0), 8);
            t.row("now", x, 0);
            t.due("deeper than a DAY on", x.deepest(0, 1), 8);
            t.row("deeper than a DAY on", x, 0);
        });
        E.promise(37, "after how many DAYS first", t -> {
            SnowForSummer x = Checks.town("99,00;99,00;99,00", "2b");
            x.set(0, 3, 2);
            t.due("4 again and again", x.deepest(0, 60), 4);
            t.row("4 again and again", x, 1);
            SnowForSummer y = Checks.town("99,00;99,00;99,00", "b2");
            y.set(0, 3, 2);
            t.due("2 now, and again", y.deepest(0, 60), 2);
            t.row("2 now, and again", y, 0);
        });
        E.promise(37, "n 0 .. 60", t -> {
            SnowForSummer x = Checks.town("99,00;99,00;99,00", "1");
            t.due("60", x.deepest(0, 60), 60);
            t.row("60", x, 60);
            for (int n : NOT_0_TO_60) {
                Edges.idle(t, "deepest(0, " + n + ")", x, -1, () -> x.deepest(0, n));
            }
        });
        E.promise(37, "NONE: others", t -> {
            SnowForSummer x = three();
            for (int house : NO_HOUSE_OF_THREE) {
                Edges.idle(t, "deepest(" + house + ", 0)", x, -1, () -> x.deepest(house, 0));
            }
        });
        E.promise(37, "The most inches on a PATH: 999", t -> {
            SnowForSummer x = Checks.town("99,00;99,00;99,00", "9");
            x.set(0, 3, 989);
            t.due("999", x.deepest(0, 9), 999);
            t.row("999 first", x, 2);
        });
    }

    private static void lord() {
        E.promise(38, "of equal ones the first", t -> {
            SnowForSummer x = three();
            t.due("1 and 2 alike", x.lord(2), 1);
            t.row("1 and 2 alike", x, 6);
        });
        E.promise(38, "how many more: not those owed now", t -> {
            SnowForSummer x = three();
            x.days(2);
            t.due("0, though 1 is owed 6 now", x.lord(1), 0);
            t.row("0", x, 9);
        });
        E.promise(38, "how many more: one DAY, to the last of seven", t -> {
            SnowForSummer x = Checks.town("5,66;50,00;50,00;50,00;50,00;50,00;50,00", "", "1");
            x.set(0, 2, 6);
            t.due("lord(1)", x.lord(1), 6);
            t.row("lord(1)", x, 1);
        });
        E.promise(38, "-2: of none they are more", t -> {
            SnowForSummer x = three();
            x.above(0);
            Edges.idle(t, "in the first DAY", x, -2, () -> x.lord(1));
            Checks.put(x, "0").rule();
            Edges.idle(t, "by a RULE of 0", x, -2, () -> x.lord(60));
        });
        E.promise(38, "-2: of DEBTS of 9999 none are more", t -> {
            SnowForSummer x = Checks.town("1,11;99,11", "9", "99");
            x.days(60);
            t.due("9999", x.debt(0, 1), 9999);
            Edges.idle(t, "lord(1)", x, -2, () -> x.lord(1));
        });
        E.promise(38, "n DAYS (0 .. 60) on; NONE: another n", t -> {
            SnowForSummer x = three();
            t.due("lord(0)", x.lord(0), -2);
            t.due("lord(60): 0 by 180, 1 by 180, 2 by 180", x.lord(60), 0);
            t.row("lord(60)", x, 180);
            for (int n : NOT_0_TO_60) {
                Edges.idle(t, "lord(" + n + ")", x, -1, () -> x.lord(n));
            }
        });
    }

    private static void worst() {
        E.promise(39, "1: the DAY that is now", t -> {
            SnowForSummer x = three();
            t.due("two", x.worst(1), 1);
            t.row("two", x, 2);
        });
        E.promise(39, "of equal ones the first", t -> {
            SnowForSummer x = three();
            t.due("four on the second, and on others", x.worst(5), 2);
            t.row("four", x, 4);
            t.due("six on the sixth", x.worst(60), 6);
            t.row("six", x, 6);
        });
        E.promise(39, "of the next n DAYS (1 .. 60)", t -> {
            SnowForSummer x = Checks.town("1,00", LATE);
            x.set(0, 1, 0);
            t.due("the sixtieth: two inches", x.worst(60), 60);
            t.row("the sixtieth", x, 2);
            for (int n : new int[] {0, 61, -1, Integer.MIN_VALUE, Integer.MAX_VALUE}) {
                Edges.idle(t, "worst(" + n + ")", x, -1, () -> x.worst(n));
            }
        });
        E.promise(39, "how many SLIDES: one", t -> {
            SnowForSummer x = Checks.town("5,00;5,00;5,00;5,00;5,00;5,00;5,00");
            x.set(6, 2, 6);
            t.due("worst(60)", x.worst(60), 1);
            t.row("worst(60)", x, 1);
        });
        E.promise(39, "-2: there are none", t -> {
            SnowForSummer x = Checks.town("1,00", LATE);
            x.above(0);
            Edges.idle(t, "worst(59)", x, -2, () -> x.worst(59));
        });
    }

    private static void melt() {
        E.promise(40, "After how many DAYS (0 .. 60)", t -> {
            SnowForSummer x = Checks.town("99,00;99,00;99,00", "a");
            t.due("none lies", x.melt(), 0);
            x.set(2, 3, 1);
            t.due("one", x.melt(), 1);
            x.set(2, 3, 60);
            t.due("60", x.melt(), 60);
        });
        E.promise(40, "on any roof nor PATH", t -> {
            SnowForSummer x = Checks.town("99,66;99,66;99,66", "a");
            x.set(2, 2, 9);
            t.due("a roof", x.melt(), 9);
            x.set(0, 3, 10);
            t.due("a PATH", x.melt(), 10);
            SnowForSummer y = Checks.town("5,66");
            y.set(0, 1, 6);
            t.due("slides to nobody", y.melt(), 1);
        });
        E.promise(40, "first", t -> {
            SnowForSummer x = Checks.town("99,00", "0ab9");
            x.set(0, 3, 2);
            t.due("though it snows behind", x.melt(), 3);
        });
        E.promise(40, "-2: not in these", t -> {
            SnowForSummer x = Checks.town("99,00;99,00;99,00", "a");
            x.set(2, 3, 61);
            x.above(0);
            Edges.idle(t, "61", x, -2, x::melt);
        });
    }

    private static void lazy() {
        E.promise(41, "HOUSES that come to owe nothing in the next n DAYS (0 .. 60)", t -> {
            SnowForSummer x = three();
            t.due("lazy(0)", x.lazy(0), 7);
            t.row("lazy(0)", x, 7);
            t.due("lazy(2)", x.lazy(2), 6);
            t.due("lazy(60)", x.lazy(60), 4);
            for (int n : NOT_0_TO_60) {
                Edges.idle(t, "lazy(" + n + ")", x, -1, () -> x.lazy(n));
            }
        });
        E.promise(41, "come to owe: not what they owe now", t -> {
            SnowForSummer x = three();
            x.days(2);
            t.due("0 owes, but nothing more", x.lazy(1), 5);
        });
        E.promise(41, "on whose PATH nothing slides from another roof than its own", t -> {
            SnowForSummer x = Checks.town("1,01;1,11;1,66", "3", "0");
            t.due("by a RULE of 0 all owe nothing", x.lazy(1), 7);
            t.row("0 has its own SNOW alone, 1 that of 0", x, 5);
            x.lazy(0);
            t.row("in no DAY nothing slides", x, 7);
        });
    }

    private static void dig() {
        E.promise(42, "(0: now)", t -> {
            SnowForSummer x = Checks.town("99,00;99,00;99,00", "5");
            x.set(0, 3, 9);
            t.due("no more than 9", x.dig(0, 9, 0), 0);
            t.due("no more than 8", x.dig(0, 8, 0), 1);
            t.due("bare", x.dig(0, 0, 0), 9);
            SnowForSummer y = Checks.town("99,00;99,00;99,00", "i");
            y.set(0, 3, 9);
            t.due("it thaws away, but now there are more", y.dig(0, 4, 1), 5);
        });
        E.promise(42, "on none of the next n DAYS' ends (0 .. 60)", t -> {
            SnowForSummer x = Checks.town("99,00;99,00;99,00", "1");
            x.set(0, 3, 9);
            t.due("60", x.dig(0, 60, 60), 9);
            t.due("60 and one more", x.dig(0, 61, 60), 8);
            t.due("59", x.dig(0, 59, 60), -2);
            SnowForSummer y = Checks.town("99,00;99,00;99,00", "5i");
            y.set(0, 3, 4);
            t.due("a DAY between, too", y.dig(0, 7, 2), 2);
        });
        E.promise(42, "more than v (0 .. 999)", t -> {
            SnowForSummer x = Checks.town("99,00;99,00;99,00", "9");
            x.set(0, 3, 999);
            t.due("999 at most lie there", x.dig(0, 999, 60), 0);
            t.due("998", x.dig(0, 998, 1), 10);
            t.due("9", x.dig(0, 9, 1), 999);
            t.due("8", x.dig(0, 8, 1), -2);
            for (int v : new int[] {1000, -1, Integer.MIN_VALUE, Integer.MAX_VALUE}) {
                Edges.idle(t, "v " + v, x, -1, () -> x.dig(0, v, 1));
            }
        });
    }

    private static void digRefused() {
        E.promise(42, "-2: all do not do", t -> {
            SnowForSummer x = Checks.town("5,11;99,00");
            x.set(0, 1, 7);
            x.set(1, 3, 3);
            x.above(0);
            Edges.idle(t, "7 slide there", x, -2, () -> x.dig(1, 6, 1));
            t.due("all do", x.dig(1, 7, 1), 3);
            t.due("7 more", x.dig(1, 10, 1), 0);
        });
        E.promise(42, "NONE: others", t -> {
            SnowForSummer x = three();
            for (int house : NO_HOUSE_OF_THREE) {
                Edges.idle(t, "HOUSE " + house, x, -1, () -> x.dig(house, 0, 0));
            }
            for (int n : NOT_0_TO_60) {
                Edges.idle(t, "n " + n, x, -1, () -> x.dig(0, 0, n));
            }
        });
    }

    private static void bare() {
        E.promise(43, "(may be below 0)", t -> {
            SnowForSummer x = Checks.town("5,11;50,00", "3", "10-d");
            x.set(0, 1, 4);
            t.due("3 for 7 inches and 4, else 4 and 4", x.bare(0, 2), -1);
        });
        E.promise(43, "in the next n DAYS (0 .. 60)", t -> {
            SnowForSummer x = Checks.town("5,11;50,00", LATE);
            x.set(0, 1, 4);
            t.due("bare(0, 0)", x.bare(0, 0), 0);
            t.due("bare(0, 59)", x.bare(0, 59), 0);
            t.due("bare(0, 60): 6 slide in the sixtieth", x.bare(0, 60), 6);
        });
        E.promise(43, "if a HOUSE's roof had no SNOW on it now: both SIDES, its PATH as it is", t -> {
            SnowForSummer x = Checks.town("5,11;50,00", "", "d+p");
            x.set(0, 1, 6);
            x.set(0, 2, 7);
            x.set(1, 3, 9);
            t.due("6 + 9 and 7 + 15", x.bare(0, 1), 37);
            t.due("without SNOW on it", x.bare(1, 1), 0);
            SnowForSummer y = Checks.town("5,11;5,20;5,01");
            y.sheet(2, 6, 6, 1);
            t.due("0: 6 and 7", y.bare(0, 1), 13);
            t.due("1: 8 and 9", y.bare(1, 1), 17);
            t.due("2: 10 and 11", y.bare(2, 1), 21);
        });
        E.promise(43, "NoSuchElementException: others", t -> {
            SnowForSummer x = three();
            x.above(0);
            for (int house : NO_HOUSE_OF_THREE) {
                Edges.idleThrow(t, "bare(" + house + ", 0)", x, () -> x.bare(house, 0));
            }
            for (int n : NOT_0_TO_60) {
                Edges.idleThrow(t, "bare(0, " + n + ")", x, () -> x.bare(0, n));
            }
        });
    }

    private static void nothingChanges() {
        E.promise(34, "nobody lifting a hand (nothing changes)", t -> {
            SnowForSummer x = three();
            x.days(3);
            x.set(0, 1, 4);
            x.least();
            String was = Edges.image(x);
            x.ahead(60);
            x.slides(0);
            x.later(0, 60);
            x.deepest(0, 60);
            x.lord(60);
            x.worst(60);
            x.melt();
            x.lazy(60);
            x.dig(0, 30, 5);
            x.bare(0, 60);
            x.least();
            t.due("all as ahead", Edges.image(x).equals(was), true);
        });
    }
}
