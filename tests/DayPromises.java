/** Promises 14 to 22: days, hands, nights, undoing. */
public final class DayPromises {
    private static final Checks T = new Checks();

    public static void main(String[] args) {
        fallAndThaw();
        slides();
        days();
        limits();
        sweep();
        clear();
        wind();
        loose();
        work();
        night();
        nightFaults();
        undo();
        undoOfEach();
        forgetting();
        T.finish();
    }

    private static void fallAndThaw() {
        SnowForSummer x = Checks.town("50,00;50,00", "5c");
        x.set(0, 1, 2);
        T.due("day()", x.day(), 0);
        T.row("day()", x, 0, 10);
        T.due("fell on SIDE 0", x.of(0, 1), 7);
        T.due("fell on SIDE 1", x.of(0, 2), 5);
        T.due("fell on the PATH", x.of(1, 3), 5);
        x.set(1, 1, 2);
        T.due("thaw", x.day(), 0);
        T.row("thaw", x, 0, 4);
        T.due("thawed", x.of(0, 1), 4);
        T.due("thawed, 0 at least", x.of(1, 1), 0);
        T.due("NOW", x.count(1), 2);
    }

    private static void slides() {
        SnowForSummer x = Checks.town("5,12;9,02;8,00", "0c");
        x.set(0, 1, 5);
        x.set(1, 2, 10);
        T.due("HOLD holds as much", x.day(), 1);
        T.row("one slid onto 2", x, 10, 10);
        T.due("who owes", x.debt(1, 2), 10);
        T.due("gone", x.of(1, 2), 0);
        x.set(0, 1, 7);
        x.set(0, 2, 5);
        x.set(1, 1, 9);
        T.due("thaw: 4 is more than 5 less 3, 2 is not", x.day(), 1);
        T.row("it thaws first", x, 4, 4 + 7);
        T.due("onto 1", x.debt(0, 1), 4);
        SnowForSummer wet = Checks.town("3,11;9,11", "e");
        wet.set(0, 1, 6);
        T.due("HOLD less thaw is 0 at least", wet.day(), 1);
        T.row("one inch slid", wet, 1, 1);
        wet.set(0, 1, 5);
        T.due("nothing left to slide", wet.day(), 0);
        SnowForSummer own = Checks.town("5,06;5,00");
        own.set(0, 1, 6);
        own.set(0, 2, 7);
        own.set(1, 1, 8);
        T.due("three", own.day(), 3);
        T.row("own PATH, nobody's, another one's", own, 8, 14);
        T.due("on the PATH", own.of(0, 3), 14);
        Checks.put(own, "1,00;1,00;1,00;1,00;1,00").town();
        own.set(0, 2, 7);
        own.day();
        T.due("now 6 is there", own.of(6, 3), 7);
        T.due("and is owed", own.debt(0, 6), 7);
        SnowForSummer order = Checks.town("1,11;1,10", "", "p");
        order.sheet(2, 3, 10, 0);
        order.day();
        T.due("SIDE 0 first, then 1: 0 and 10", order.debt(0, 1), 10);
        T.due("HOUSE 1's SIDE 0 comes onto its own", order.of(1, 3), 30);
    }

    private static void days() {
        SnowForSummer x = Checks.town("5,11;5,00", "3");
        T.due("days(0)", x.days(0), 0);
        T.row("days(0)", x, 0, 0);
        T.due("days(0) is nothing to undo", x.count(6), 0);
        T.due("days(61)", x.days(61), -1);
        T.due("days(-1)", x.days(-1), -1);
        T.row("refused: the ROW stays", x, 0, 0);
        T.due("days(4): twice four slides", x.days(4), 8);
        T.row("days(4)", x, 8 * 6, 2 * (4 * 3 + 4 * 6));
        T.due("one to undo", x.count(6), 1);
        T.due("NOW", x.count(1), 4);
        T.due("days(60)", x.days(60), 30 * 4);
        T.due("undo", x.undo(), 1);
        T.due("NOW again", x.count(1), 4);
    }

    private static void limits() {
        SnowForSummer x = Checks.town("99,11;99,00", "9", "99");
        x.set(1, 1, 995);
        x.set(0, 3, 995);
        x.set(0, 1, 500);
        x.set(1, 3, 998);
        x.day();
        T.due("PATH 999 at most", x.of(1, 3), 999);
        T.due("slid from 999", x.of(0, 3), 999);
        for (int i = 0; i < 2; i++) {
            x.set(0, 0, 1);
            x.days(60);
            T.row("counted all the same", x, 60 * 2 * 99 + 2 * 5 * 99, 1998);
        }
        T.due("DEBTS 9999 at most", x.debt(0, 1), 9999);
        T.due("owes 9999", x.of(0, 7), 9999);
    }

    private static void sweep() {
        SnowForSummer x = Checks.town("50,00;50,00");
        x.set(1, 1, 20);
        T.due("sweep(2, 5)", x.sweep(2, 5), 5);
        T.due("left", x.of(1, 1), 15);
        T.due("back", x.sweep(3, 5), 20);
        T.due("not so many", x.sweep(2, 21), -2);
        T.due("all", x.sweep(2, 20), 20);
        T.due("none there", x.sweep(2, 1), -2);
        T.due("n 0", x.sweep(3, 0), -1);
        T.due("n 100", x.sweep(3, 100), -1);
        T.due("n -1", x.sweep(3, -1), -1);
        T.due("side 4", x.sweep(4, 1), -1);
        T.due("side -1", x.sweep(-1, 1), -1);
        T.due("side 14", x.sweep(14, 1), -1);
        x.set(1, 1, 990);
        T.due("999 at most", x.sweep(3, 20), 999);
        T.due("gone all the same", x.of(1, 2), 0);
        T.due("n 99", x.sweep(2, 99), 99);
        T.due("five were done", x.count(6), 5);
    }

    private static void clear() {
        SnowForSummer x = Checks.town("50,00");
        x.set(0, 3, 100);
        T.due("clear", x.clear(0, 99), 1);
        T.due("not so many", x.clear(0, 2), -2);
        T.due("the last", x.clear(0, 1), 0);
        T.due("n 0", x.clear(0, 0), -1);
        T.due("n 100", x.clear(0, 100), -1);
        T.due("none such", x.clear(1, 1), -1);
        T.due("below 0", x.clear(-1, 1), -1);
        T.due("two were done", x.count(6), 2);
    }

    private static void wind() {
        SnowForSummer x = Checks.town("50,00;50,00;50,00");
        x.sheet(2, 6, 3, 4);
        T.due("wind(0, 9)", x.wind(0, 9), 3 + 9 + 9);
        T.due("0.0", x.of(0, 1), 0);
        T.due("0.1", x.of(0, 2), 10);
        T.due("1.0", x.of(1, 1), 2);
        T.due("1.1", x.of(1, 2), 24);
        T.due("wind(1, 1)", x.wind(1, 1), 3);
        x.set(2, 2, 999);
        T.due("999 at most", x.wind(0, 99), 1 + 3 + 11);
        T.due("no more there", x.of(2, 2), 999);
        T.due("wind(2, 1)", x.wind(2, 1), -1);
        T.due("wind(-1, 1)", x.wind(-1, 1), -1);
        T.due("wind(0, 0)", x.wind(0, 0), -1);
        T.due("wind(0, 100)", x.wind(0, 100), -1);
        T.due("three were done", x.count(6), 3);
        T.due("wind that moves nothing", x.wind(0, 5), 0);
        T.due("is done as well", x.count(6), 4);
    }

    private static void loose() {
        SnowForSummer x = Checks.town("50,16;50,00;50,00", "0b", "d+10*x+t");
        x.sheet(2, 4, 4, 0);
        T.due("0 sets off its own", x.loose(0, 0), 4);
        T.row("0 sets off its own", x, 14);
        T.due("who owes", x.debt(0, 1), 14);
        x.day();
        T.due("1 sets off 0's onto nobody", x.loose(1, 1), 4);
        T.row("1 sets off 0's onto nobody", x, 0);
        T.due("2 sets off 1's onto 0, while it thaws", x.loose(2, 2), 4);
        T.row("2 sets off 1's onto 0", x, 16);
        T.due("2 owes, not 1", x.debt(2, 0), 16);
        T.due("0 sets off 1's onto itself", x.loose(0, 3), 4);
        T.row("0 sets off 1's onto itself", x, 0);
        T.due("no SNOW", x.loose(0, 3), -2);
        T.due("no such HOUSE", x.loose(3, 3), -1);
        T.due("no such HOUSE below 0", x.loose(-1, 3), -1);
        T.due("no such SIDE", x.loose(0, 6), -1);
        T.due("no such SIDE below 0", x.loose(0, -1), -1);
        T.row("refused: the ROW stays", x, 0);
        T.due("on the PATH", x.of(0, 3), 8);
        T.due("four and a day", x.count(6), 5);
        x.set(0, 1, 3);
        x.set(1, 1, 3);
        Checks.put(x, "p").rule();
        x.loose(0, 2);
        x.set(0, 4, 0);
        x.loose(2, 0);
        T.row("by another one onto its own PATH", x, 11);
        T.due("owes the HOUSE itself", x.debt(2, 0), 27);
    }

    private static void work() {
        SnowForSummer x = Checks.debts(2, 0, 1, 120);
        int done = x.count(6);
        T.due("work", x.work(0, 1, 99), 21);
        T.due("not so many", x.work(0, 1, 22), -2);
        T.due("n 0", x.work(0, 1, 0), -1);
        T.due("n 100", x.work(0, 1, 100), -1);
        T.due("like ones", x.work(0, 0, 1), -1);
        T.due("none such", x.work(0, 2, 1), -1);
        T.due("none such either", x.work(-1, 1, 1), -1);
        T.due("owes none", x.work(1, 0, 1), -2);
        T.due("the last", x.work(0, 1, 21), 0);
        T.due("two more were done", x.count(6), done + 2);
    }

    private static void night() {
        SnowForSummer x = Checks.town("5,11;5,00", "00b");
        x.sheet(2, 4, 5, 0);
        x.set(1, 3, 9);
        T.due("night", Checks.put(x, "s00*2;c1*09;l001;d2;l110").night(), 5);
        T.row("night", x, 0, 7 + 5);
        T.due("NOW", x.count(1), 2);
        T.due("PATH of 1", x.of(1, 3), 7);
        T.due("PATH of 0", x.of(0, 3), 5);
        T.due("one to undo", x.undo(), 0);
        T.due("undone", x.of(0, 1), 5);
        T.due("undone, too", x.of(1, 3), 9);
        T.due("NOW again", x.count(1), 0);
        T.due("till one is refused", Checks.put(x, "d;s00*6;d").night(), 1);
        T.row("till one is refused", x, 1, 0);
        T.due("the first one stays", x.count(1), 1);
        T.due("can be undone", x.undo(), 0);
        T.due("the first refused", Checks.put(x, "c1*10;d").night(), 0);
        T.row("the first refused", x, 1, 0);
        T.due("nothing to undo", x.count(6), 0);
        T.due("houses that are not there", Checks.put(x, "s90*1").night(), 0);
        T.due("l by a house that is not there", Checks.put(x, "l900").night(), 0);
        T.due("l of a side that is not there", Checks.put(x, "l020").night(), 0);
        T.row("refused", x, 1, 0);
        T.due("number 0", Checks.put(x, "s00*0").night(), 0);
        T.due("d9", Checks.put(x, "d9").night(), 1);
        T.due("nine days", x.count(1), 9);
        T.due("thaw on the way", x.of(0, 1), 0);
        T.due("empty", Checks.put(x, "").night(), 0);
        T.row("empty", x, 0, 0);
        T.due("empty is nothing to undo", x.count(6), 1);
        StringBuilder b = new StringBuilder("d");
        for (int i = 1; i < 30; i++) {
            b.append(";d");
        }
        T.due("thirty", Checks.put(x, b.toString()).night(), 30);
        T.due("thirty days", x.count(1), 39);
        T.due("60 signs", Checks.put(x, b + "9").night(), 30);
        T.due("and eight days", x.count(1), 77);
        T.due("one night is one to undo", x.count(6), 3);
        T.due("60 signs with ; last", Checks.put(x, b + ";").night(), -61);
        T.due("61 signs", Checks.put(x, b + ";d").night(), -61);
        T.due("61 signs, the last one bad", Checks.put(x, b + "9x").night(), -61);
        T.due("text is emptied", x.count(9), 0);
        T.due("nothing done", x.count(1), 77);
    }

    private static void nightFaults() {
        String[] texts = {"x", "S", "s", "s0", "s02", "s0x", "s01", "s01x", "s01*", "s01*x", "s01*123", "s01*1;", "c", "cx",
            "c0", "c00", "c0*", "c0*99*", "l", "lx", "l0", "l0x", "l00", "l002", "l0011", "d0", "d;", "d11", "dd", ";d",
            "d;;d", "d;x", "d9;s91*99;c9*0;l991;d;y", "sx", "s/0", "s:0", "s01*:", "s01*1:", "c:", "l:", "l0:", "d:"};
        int[] places = {0, 0, 1, 2, 2, 2, 3, 3, 4, 4, 6, 6, 1, 1,
            2, 2, 3, 5, 1, 1, 2, 2, 3, 3, 4, 1, 2, 2, 1, 0,
            2, 2, 22, 1, 1, 1, 4, 5, 1, 1, 2, 1};
        SnowForSummer x = Checks.town("5,11;5,00", "1");
        for (int i = 0; i < texts.length; i++) {
            T.due("night " + texts[i], Checks.put(x, texts[i]).night(), -1 - places[i]);
        }
        T.due("nothing was done", x.count(1), 0);
        T.due("nothing to undo", x.undo(), -1);
        T.due("no ROW", x.count(8), 0);
    }

    private static void undo() {
        SnowForSummer x = Checks.town("50,00", "1");
        for (int i = 0; i < 14; i++) {
            x.day();
        }
        T.due("12 are kept", x.count(6), 12);
        for (int left = 11; left >= 0; left--) {
            T.due("undo", x.undo(), left);
            T.due("NOW", x.count(1), 2 + left);
            T.due("SNOW", x.of(0, 2), 2 + left);
        }
        T.due("no more", x.undo(), -1);
        T.due("nothing changed", x.count(1), 2);
        x.day();
        x.set(0, 1, 77);
        x.set(0, 0, 88);
        x.undo();
        T.due("SNOW as ahead of it", x.of(0, 1), 2);
        T.due("HOLD stays", x.of(0, 0), 88);
    }

    private static void undoOfEach() {
        SnowForSummer x = Checks.debts(3, 0, 1, 9, 1, 0, 7, 1, 2, 3);
        x.keep(0);
        x.again(0);
        T.due("again() forgets", x.count(6), 0);
        x.sheet(2, 6, 10, 0);
        x.set(0, 3, 5);
        Runnable[] calls = {x::day, () -> x.days(2), () -> x.sweep(0, 1), () -> x.clear(0, 1), () -> x.loose(1, 0),
            () -> x.work(0, 1, 1), x::cancel, x::rings, x::even, () -> x.wind(0, 1), () -> Checks.put(x, "d").night()};
        for (int i = 0; i < calls.length; i++) {
            int before = image(x);
            calls[i].run();
            T.due("call " + i + " can be undone", x.count(6), 1);
            T.due("call " + i + " changed something", image(x) != before, true);
            T.due("call " + i + " undone", x.undo(), 0);
            T.due("call " + i + " all as ahead", image(x), before);
        }
        x.cancel();
        x.undo();
        x.rings();
        T.due("rings() of none", x.rings(), 0);
        T.due("is nothing to undo", x.count(6), 1);
        x.even();
        x.even();
        T.due("even() can be undone always", x.count(6), 3);
        x.cancel();
        x.days(0);
        x.loose(0, 13);
        x.work(2, 1, 99);
        T.due("nothing more", x.count(6), 3);
    }

    private static int image(SnowForSummer x) {
        int sum = x.count(1);
        for (int house = 0; house < x.count(0); house++) {
            for (int what = 0; what <= 8; what++) {
                sum = 31 * sum + x.of(house, what);
            }
            for (int to = 0; to < x.count(0); to++) {
                sum = 31 * sum + x.debt(house, to);
            }
        }
        return sum;
    }

    private static void forgetting() {
        SnowForSummer x = Checks.town("50,00", "1");
        x.day();
        Checks.put(x, "").town();
        T.due("an empty town() does not forget", x.count(6), 1);
        Checks.put(x, "x").town();
        T.due("a refused town() does not forget", x.count(6), 1);
        x.again(0);
        T.due("a refused again() does not forget", x.count(6), 1);
        Checks.put(x, "50,00").town();
        T.due("town() forgets", x.count(6), 0);
        T.due("nothing to undo", x.undo(), -1);
    }
}
