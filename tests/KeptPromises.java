/** Promises 52 to 59: tracks, what is kept, counts, the ROW. */
public final class KeptPromises {
    private static final Checks T = new Checks();

    public static void main(String[] args) {
        track();
        suspects();
        gang();
        keepAndAgain();
        count();
        row();
        T.finish();
    }

    private static void track() {
        SnowForSummer x = Checks.town("5,11;5,00");
        T.due("day 0", x.track(0, 0), 1);
        T.due("day 999", x.track(1, 999), 2);
        T.due("the same once more", x.track(1, 999), 3);
        T.due("day 1000", x.track(0, 1000), -1);
        T.due("day -1", x.track(0, -1), -1);
        T.due("none such", x.track(2, 0), -1);
        T.due("none such below 0", x.track(-1, 0), -1);
        for (int n = 4; n <= 20; n++) {
            T.due("track " + n, x.track(0, n), n);
        }
        T.due("no room", x.track(0, 5), -1);
        T.due("count(7)", x.count(7), 20);
        T.due("thaw()", x.thaw(), 20);
        T.due("thaw() again", x.thaw(), 0);
        T.due("room again", x.track(0, 5), 1);
    }

    private static void suspects() {
        SnowForSummer x = Checks.town("5,11;5,00;5,00");
        x.track(0, 1);
        x.track(2, 1);
        x.track(2, 30);
        x.track(1, 31);
        T.due("no nights: all", x.suspects(0), 7);
        T.due("night 1", x.suspects(2), 5);
        T.due("nights 1 and 30", x.suspects(2 | 1 << 30), 4);
        T.due("nobody out", x.suspects(1), 0);
        T.due("bits below 0", x.suspects(-1), -1);
        T.due("the least int", x.suspects(Integer.MIN_VALUE), -1);
        x.thaw();
        T.due("forgotten", x.suspects(2), 0);
        T.due("no HOUSES", new SnowForSummer().suspects(0), 0);
    }

    private static void gang() {
        SnowForSummer x = Checks.town("5,11;5,00;5,00;5,00");
        int[] tracks = {3, 1, 2, 1, 0, 2, 3, 2, 1, 30, 2, 30, 0, 40};
        for (int i = 0; i < tracks.length; i += 2) {
            x.track(tracks[i], tracks[i + 1]);
        }
        T.due("none", x.gang(0), 0);
        T.row("none", x, 0);
        T.due("night 1", x.gang(2), 1);
        T.row("night 1: of as few the least", x, 4);
        T.due("nights 1, 2", x.gang(6), 1);
        T.row("nights 1, 2", x, 8);
        T.due("nights 1, 2, 30", x.gang(6 | 1 << 30), 2);
        T.row("nights 1, 2, 30", x, 1 | 4);
        T.due("nobody was out in one", x.gang(7), -2);
        T.due("bits below 0", x.gang(-1), -1);
        T.row("these leave the ROW", x, 5);
        T.due("no HOUSES", new SnowForSummer().gang(1), -2);
        SnowForSummer all = Checks.town("5,11;5,00;5,00;5,00;5,00;5,00;5,00");
        for (int house = 0; house < 7; house++) {
            all.track(house, 6 - house);
        }
        T.due("all seven", all.gang(127), 7);
        T.row("all seven", all, 127);
        T.due("six of them", all.gang(63), 6);
        T.row("six of them", all, 126);
    }

    private static void keepAndAgain() {
        SnowForSummer x = Checks.town("5,11;5,00", "3");
        T.due("nothing kept", x.again(0), false);
        T.due("keep(2)", x.keep(2), false);
        T.due("keep(-1)", x.keep(-1), false);
        x.days(2);
        T.due("keep(0)", x.keep(0), true);
        x.days(3);
        T.due("keep(1)", x.keep(1), true);
        x.days(1);
        x.set(0, 0, 9);
        T.due("again(0)", x.again(0), true);
        T.due("NOW", x.count(1), 2);
        T.due("roofs", x.count(2), 0);
        T.due("PATHS", x.count(3), 36);
        T.due("DEBTS", x.count(4), 24);
        T.due("HOLD stays", x.of(0, 0), 9);
        T.due("nothing to undo", x.count(6), 0);
        T.due("again(1)", x.again(1), true);
        T.due("NOW of that", x.count(1), 5);
        T.due("again(0) once more", x.again(0), true);
        T.due("again(2)", x.again(2), false);
        T.due("again(-1)", x.again(-1), false);
        Checks.put(x, "x").town();
        T.due("none came", x.again(1), true);
        x.day();
        Checks.put(x, "5,00").town();
        T.due("HOUSES came since", x.again(0), false);
        T.due("nothing changed", x.count(1), 6);
        T.due("keep anew", x.keep(0), true);
        T.due("again anew", x.again(0), true);
        T.due("the other one is still of before", x.again(1), false);
    }

    private static void count() {
        SnowForSummer x = Checks.town("5,11;5,00", "3a");
        x.days(2);
        x.set(0, 1, 6);
        x.loose(0, 0);
        x.set(1, 3, 70);
        x.track(0, 1);
        x.sign(0);
        int[] due = {2, 2, 6, 72, 6, 2, 2, 1, 1, 4};
        for (int what = 0; what < due.length; what++) {
            T.due("count(" + what + ")", x.count(what), due[what]);
        }
        T.due("count(10)", x.count(10), -1);
        T.due("count(-1)", x.count(-1), -1);
    }

    private static void row() {
        SnowForSummer x = Checks.town("5,11;5,00", "3");
        T.noSuch("no ROW yet", () -> x.row(0));
        x.day();
        T.due("row(0)", x.row(0), 0);
        T.due("row(1)", x.row(1), 6);
        T.noSuch("row(2)", () -> x.row(2));
        T.noSuch("row(-1)", () -> x.row(-1));
        x.least();
        T.due("a new ROW", x.row(0), 0);
        T.noSuch("of one number", () -> x.row(1));
        x.undo();
        T.due("undo() leaves it", x.count(8), 1);
    }
}
