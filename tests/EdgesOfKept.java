/** The edges that promises 52 to 59 name: tracks, what is kept, counts, the ROW. */
public final class EdgesOfKept {
    private static final Edges E = new Edges(52, 59);

    public static void main(String[] args) {
        track();
        thaw();
        suspects();
        gang();
        keep();
        again();
        count();
        row();
        longUse();
        E.finish();
    }

    private static SnowForSummer three() {
        SnowForSummer x = Checks.town("5,11;5,00;5,00", "3");
        x.days(2);
        return x;
    }

    private static void track() {
        E.promise(52, "the night ahead of a DAY (0 .. 999)", t -> {
            SnowForSummer x = three();
            t.due("0", x.track(0, 0), 1);
            t.due("999", x.track(2, 999), 2);
            for (int day : new int[] {1000, -1, Integer.MIN_VALUE, Integer.MAX_VALUE}) {
                Edges.idle(t, "track(0, " + day + ")", x, -1, () -> x.track(0, day));
            }
        });
        E.promise(52, "Refused: others", t -> {
            SnowForSummer x = three();
            for (int house : new int[] {3, 6, 7, -1, Integer.MIN_VALUE, Integer.MAX_VALUE}) {
                Edges.idle(t, "track(" + house + ", 0)", x, -1, () -> x.track(house, 0));
            }
        });
        E.promise(52, "Refused: 20", t -> {
            SnowForSummer x = three();
            for (int n = 1; n <= 20; n++) {
                t.due("track " + n, x.track(n % 3, n), n);
            }
            Edges.idle(t, "a 21st", x, -1, () -> x.track(0, 0));
            Edges.idle(t, "one that was told", x, -1, () -> x.track(1, 1));
            t.due("the twentieth counts", x.suspects(1 << 20), 4);
        });
    }

    private static void thaw() {
        E.promise(53, "Tracks are forgotten: how many there were", t -> {
            SnowForSummer x = three();
            t.due("none", x.thaw(), 0);
            x.track(0, 1);
            x.track(0, 1);
            t.due("0 alone was out", x.suspects(2), 1);
            t.due("two", x.thaw(), 2);
            t.due("none now", x.count(7), 0);
            t.due("none again", x.thaw(), 0);
            t.due("nobody was out", x.suspects(2), 0);
            t.due("the first anew", x.track(1, 1), 1);
            t.due("1 alone was out", x.suspects(2), 2);
        });
        E.promise(53, "forgotten by this call alone", t -> {
            SnowForSummer x = three();
            x.track(0, 1);
            x.undo();
            x.keep(0);
            x.again(0);
            Checks.put(x, "5,00").town();
            t.due("one", x.thaw(), 1);
        });
    }

    private static void suspects() {
        E.promise(54, "nights ahead of DAYS told as bits (of DAYS 0 .. 30)", t -> {
            SnowForSummer x = three();
            x.track(0, 0);
            x.track(1, 30);
            x.track(2, 31);
            x.track(2, 32);
            t.due("DAY 0", x.suspects(1), 1);
            t.due("DAY 30", x.suspects(1 << 30), 2);
            t.due("all 31", x.suspects(Integer.MAX_VALUE), 0);
        });
        E.promise(54, "out in each of the nights", t -> {
            SnowForSummer x = three();
            x.track(0, 3);
            x.track(1, 3);
            x.track(1, 4);
            t.due("one night", x.suspects(8), 3);
            t.due("two nights", x.suspects(24), 2);
            t.due("a night in which nobody was", x.suspects(8 + 32), 0);
            t.due("no night: all HOUSES", x.suspects(0), 7);
        });
        E.promise(54, "NONE: bits below 0", t -> {
            SnowForSummer x = three();
            for (int days : new int[] {-1, Integer.MIN_VALUE, -8}) {
                Edges.idle(t, "suspects(" + days + ")", x, -1, () -> x.suspects(days));
            }
        });
    }

    private static void gang() {
        E.promise(55, "(bits; of as few the least)", t -> {
            SnowForSummer x = three();
            int[] tracks = {2, 0, 1, 0, 2, 30, 0, 30, 1, 5};
            for (int i = 0; i < tracks.length; i += 2) {
                x.track(tracks[i], tracks[i + 1]);
            }
            t.due("DAY 0", x.gang(1), 1);
            t.row("1 or 2", x, 2);
            t.due("DAYS 0, 30", x.gang(1 | 1 << 30), 1);
            t.row("2 alone", x, 4);
            t.due("DAYS 0, 5, 30", x.gang(1 | 32 | 1 << 30), 2);
            t.row("0 and 1, or 1 and 2", x, 3);
        });
        E.promise(55, "-2: in one nobody was out", t -> {
            SnowForSummer x = three();
            x.track(0, 0);
            x.track(0, 31);
            Edges.idle(t, "DAYS 0, 1", x, -2, () -> x.gang(3));
            Edges.idle(t, "all 31", x, -2, () -> x.gang(Integer.MAX_VALUE));
            SnowForSummer none = new SnowForSummer();
            Edges.idle(t, "no HOUSES", none, -2, () -> none.gang(1));
        });
        E.promise(55, "0 for none", t -> {
            SnowForSummer x = three();
            t.due("gang(0)", x.gang(0), 0);
            t.row("gang(0)", x, 0);
        });
        E.promise(55, "NONE: bits below 0", t -> {
            SnowForSummer x = three();
            for (int days : new int[] {-1, Integer.MIN_VALUE, -8}) {
                Edges.idle(t, "gang(" + days + ")", x, -1, () -> x.gang(days));
            }
        });
        E.promise(55, "The fewest HOUSES: all seven", t -> {
            SnowForSummer x = Checks.town("5,00;5,00;5,00;5,00;5,00;5,00;5,00");
            for (int house = 0; house < 7; house++) {
                x.track(house, 24 + house);
            }
            t.due("all", x.gang(127 << 24), 7);
            t.row("all", x, 127);
        });
    }

    private static void keep() {
        E.promise(56, "under a number 0 .. 1", t -> {
            SnowForSummer x = three();
            t.due("keep(0)", x.keep(0), true);
            t.due("keep(1)", x.keep(1), true);
            for (int i : new int[] {2, -1, Integer.MIN_VALUE, Integer.MAX_VALUE}) {
                Edges.idle(t, "keep(" + i + ")", x, 0, () -> x.keep(i) ? 1 : 0);
            }
        });
        E.promise(56, "kept anew under the same number, the other one stays", t -> {
            SnowForSummer x = three();
            x.keep(0);
            x.keep(1);
            x.days(3);
            x.keep(1);
            x.day();
            x.again(0);
            t.due("NOW of 0", x.count(1), 2);
            x.again(1);
            t.due("NOW of 1", x.count(1), 5);
        });
    }

    private static void again() {
        E.promise(57, "They are as they were kept: SNOW, DEBTS, NOW", t -> {
            SnowForSummer x = three();
            x.set(1, 2, 4);
            x.keep(1);
            x.again(1);
            x.least();
            String was = Edges.image(x);
            x.days(5);
            x.set(0, 1, 50);
            x.even();
            t.due("again(1)", x.again(1), true);
            x.least();
            t.due("all as it was kept", Edges.image(x).equals(was), true);
            t.due("and once more", x.again(1), true);
        });
        E.promise(57, "HOLD, HAY, HOUSES below are not kept", t -> {
            SnowForSummer x = three();
            x.keep(0);
            x.set(0, 0, 8);
            x.set(0, 4, 6);
            x.set(0, 6, 9);
            x.again(0);
            t.due("HOLD", x.of(0, 0), 8);
            t.due("below", x.of(0, 4), 6);
            t.due("HAY", x.of(0, 6), 9);
        });
        E.promise(57, "Refused: nothing kept", t -> {
            SnowForSummer x = three();
            Edges.idle(t, "again(0)", x, 0, () -> x.again(0) ? 1 : 0);
            x.keep(0);
            x.day();
            Edges.idle(t, "again(1)", x, 0, () -> x.again(1) ? 1 : 0);
            for (int i : new int[] {2, -1, Integer.MIN_VALUE, Integer.MAX_VALUE}) {
                Edges.idle(t, "again(" + i + ")", x, 0, () -> x.again(i) ? 1 : 0);
            }
        });
        E.promise(57, "Refused: HOUSES came since", t -> {
            SnowForSummer x = three();
            x.keep(0);
            Checks.put(x, "").town();
            Checks.put(x, "x").town();
            t.due("none came", x.again(0), true);
            Checks.put(x, "5,00").town();
            x.day();
            Edges.idle(t, "one came", x, 0, () -> x.again(0) ? 1 : 0);
            x.keep(1);
            t.due("kept behind it", x.again(1), true);
            SnowForSummer none = new SnowForSummer();
            none.keep(0);
            none.day();
            t.due("kept without HOUSES", none.again(0), true);
            t.due("NOW", none.count(1), 0);
            Checks.put(none, "5,00").town();
            t.due("the first came", none.again(0), false);
        });
    }

    private static void count() {
        E.promise(58, "NONE for another what", t -> {
            SnowForSummer x = three();
            for (int what : new int[] {10, -1, Integer.MIN_VALUE, Integer.MAX_VALUE}) {
                Edges.idle(t, "count(" + what + ")", x, -1, () -> x.count(what));
            }
        });
        E.promise(58, "at their most", t -> {
            SnowForSummer x = Checks.town("99,11;99,00;99,00;99,00;99,00;99,00;99,00", Edges.times(40, "0"));
            x.sheet(2, 14, 999, 0);
            for (int house = 0; house < 7; house++) {
                x.set(house, 3, 999);
            }
            for (int n = 0; n < 20; n++) {
                x.track(0, n);
                x.sign(0);
                x.wind(0, 1);
            }
            x.ahead(0);
            int[] due = {7, 0, 14 * 999 - 7 * 20, 7 * 999, 0, 40, 12, 20, 8, 80};
            for (int what = 0; what < due.length; what++) {
                t.due("count(" + what + ")", x.count(what), due[what]);
            }
        });
        E.promise(58, "what 4: DAYS owed in all", t -> {
            SnowForSummer x = Checks.debts(3, 0, 1, 9999, 1, 2, 9999, 2, 0, 1);
            t.due("count(4)", x.count(4), 19999);
        });
    }

    private static void row() {
        E.promise(59, "NoSuchElementException: none such", t -> {
            SnowForSummer none = new SnowForSummer();
            t.noSuch("no ROW yet", () -> none.row(0));
            SnowForSummer x = three();
            for (int i : new int[] {2, -1, 8, Integer.MIN_VALUE, Integer.MAX_VALUE}) {
                Edges.idleThrow(t, "row(" + i + ")", x, () -> x.row(i));
            }
            t.due("the last", x.row(1), 6 * 6 + 6 * 3);
        });
        E.promise(59, "none such: of a longer ROW nothing is left", t -> {
            SnowForSummer x = three();
            x.ahead(3);
            t.due("four numbers", x.count(8), 4);
            x.least();
            t.due("one number", x.count(8), 1);
            t.noSuch("row(1)", () -> x.row(1));
            t.noSuch("row(3)", () -> x.row(3));
        });
        E.promise(59, "the longest ROW: eight numbers", t -> {
            SnowForSummer x = Checks.town("5,11;5,00;5,00;5,00;5,00;5,00;5,00", "6");
            x.ahead(1);
            t.row("ahead(1)", x, 14, 12, 12, 12, 12, 12, 12, 12);
            t.noSuch("row(8)", () -> x.row(8));
        });
    }

    private static void longUse() {
        E.promise(58, "An object is used for at most 512 calls: the last answers as the first", t -> {
            SnowForSummer x = Checks.town("1,11;1,00", "9", "99");
            int calls = 0;
            while (calls < 490) {
                x.days(60);
                calls++;
            }
            t.due("NOW", x.count(1), 490 * 60);
            t.due("DEBTS", x.count(4), 2 * 9999);
            t.due("PATHS", x.count(3), 2 * 999);
            t.due("falls", x.falls(9999), 9);
            t.due("ahead(60)", x.ahead(60), 60 * 4 * 99);
        });
    }
}
