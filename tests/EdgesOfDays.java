/** The edges that promises 14 to 22 name: days, hands, nights, undoing. */
public final class EdgesOfDays {
    private static final Edges E = new Edges(14, 22);
    private static final int[] NO_HOUSE_OF_TWO = {2, 6, 7, -1, Integer.MIN_VALUE, Integer.MAX_VALUE};
    private static final int[] NO_SIDE_OF_FOUR = {4, 13, 14, -1, Integer.MIN_VALUE, Integer.MAX_VALUE};
    private static final int[] NOT_1_TO_99 = {0, 100, -1, Integer.MIN_VALUE, Integer.MAX_VALUE};

    public static void main(String[] args) {
        day();
        days();
        sweep();
        clear();
        wind();
        loose();
        work();
        nightActs();
        nightRefused();
        nightFaults();
        nightLength();
        undo();
        undoOfRefused();
        forgetting();
        E.finish();
    }

    private static void day() {
        E.promise(14, "how many SLIDES there were", t -> {
            SnowForSummer x = Checks.town("5,01;5,66");
            t.due("none", x.day(), 0);
            x.sheet(2, 4, 6, 0);
            t.due("onto its own, another one's, nobody's PATH", x.day(), 4);
            x.set(0, 1, 6);
            t.due("of this DAY alone", x.day(), 1);
        });
        E.promise(14, "the ROW: DAYS that came to be owed in it, inches that lie on all PATHS then", t -> {
            SnowForSummer x = Checks.town("5,11;5,00", "1");
            x.set(0, 1, 5);
            x.day();
            t.row("6 slid, 1 fell on each", x, 6, 8);
            x.day();
            t.row("of this DAY alone", x, 0, 10);
        });
        E.promise(14, "inches on all PATHS: no more than 999 each", t -> {
            SnowForSummer x = Checks.town("5,11;5,00", "9");
            x.set(0, 3, 999);
            x.set(1, 3, 995);
            x.day();
            t.row("999 each", x, 36, 1998);
        });
    }

    private static void days() {
        E.promise(15, "n DAYS (0 .. 60)", t -> {
            SnowForSummer x = Checks.town("5,11;5,00", "3");
            x.set(0, 3, 4);
            t.due("days(0)", x.days(0), 0);
            t.row("days(0)", x, 0, 4);
            t.due("NOW", x.count(1), 0);
            t.due("days(60): every second DAY four", x.days(60), 120);
            t.due("NOW behind 60", x.count(1), 60);
        });
        E.promise(15, "the ROW: as day(), of all these", t -> {
            SnowForSummer x = Checks.town("5,11;50,00", "3b");
            t.due("days(9)", x.days(9), 2);
            t.row("3 1 4 2 5 3 6: both SIDES slide, then 2 less, 3 more", x, 12, 7 + 19);
        });
        E.promise(15, "NONE: another n", t -> {
            SnowForSummer x = Checks.town("5,11;5,00", "3");
            x.day();
            for (int n : new int[] {61, -1, Integer.MIN_VALUE, Integer.MAX_VALUE}) {
                Edges.idle(t, "days(" + n + ")", x, -1, () -> x.days(n));
            }
        });
    }

    private static SnowForSummer swept() {
        SnowForSummer x = Checks.town("50,00;50,00");
        x.sheet(2, 4, 30, 1);
        x.above(0);
        return x;
    }

    private static void sweep() {
        E.promise(16, "n inches (1 .. 99)", t -> {
            SnowForSummer x = swept();
            x.set(0, 1, 100);
            t.due("1", x.sweep(0, 1), 32);
            t.due("99", x.sweep(0, 99), 131);
            t.due("none left", x.of(0, 1), 0);
            for (int n : NOT_1_TO_99) {
                Edges.idle(t, "sweep(1, " + n + ")", x, -1, () -> x.sweep(1, n));
            }
        });
        E.promise(16, "of a SIDE (0 .. 13)", t -> {
            SnowForSummer x = swept();
            for (int side : NO_SIDE_OF_FOUR) {
                Edges.idle(t, "sweep(" + side + ", 1)", x, -1, () -> x.sweep(side, 1));
            }
            t.due("the last that is there", x.sweep(3, 3), 35);
            SnowForSummer y = Checks.town("50,00;50,00;50,00;50,00;50,00;50,00;50,00");
            y.set(6, 2, 5);
            t.due("SIDE 13", y.sweep(13, 5), 5);
        });
        E.promise(16, "(999 at most)", t -> {
            SnowForSummer x = swept();
            x.set(0, 1, 989);
            t.due("10 of 31: 999", x.sweep(1, 10), 999);
            t.due("one more", x.sweep(1, 1), 999);
            t.due("is gone", x.of(0, 2), 20);
        });
        E.promise(16, "-2: it has not so many", t -> {
            SnowForSummer x = swept();
            Edges.idle(t, "31 of 30", x, -2, () -> x.sweep(0, 31));
            t.due("30 of 30", x.sweep(0, 30), 61);
            Edges.idle(t, "1 of none", x, -2, () -> x.sweep(0, 1));
        });
    }

    private static void clear() {
        E.promise(17, "n inches (1 .. 99)", t -> {
            SnowForSummer x = swept();
            x.set(1, 3, 150);
            t.due("1", x.clear(1, 1), 149);
            t.due("99", x.clear(1, 99), 50);
            for (int n : NOT_1_TO_99) {
                Edges.idle(t, "clear(1, " + n + ")", x, -1, () -> x.clear(1, n));
            }
        });
        E.promise(17, "-2: it has not so many", t -> {
            SnowForSummer x = swept();
            x.set(1, 3, 20);
            Edges.idle(t, "21 of 20", x, -2, () -> x.clear(1, 21));
            t.due("20 of 20", x.clear(1, 20), 0);
            Edges.idle(t, "1 of none", x, -2, () -> x.clear(1, 1));
        });
        E.promise(17, "NONE: others", t -> {
            SnowForSummer x = swept();
            for (int house : NO_HOUSE_OF_TWO) {
                Edges.idle(t, "clear(" + house + ", 1)", x, -1, () -> x.clear(house, 1));
            }
        });
    }

    private static void wind() {
        E.promise(18, "of each roof as many inches as are there, n (1 .. 99) at most", t -> {
            SnowForSummer x = Checks.town("50,00;50,00;50,00");
            x.set(0, 1, 98);
            x.set(1, 1, 99);
            x.set(2, 1, 100);
            t.due("99", x.wind(0, 99), 98 + 99 + 99);
            t.due("none left", x.of(1, 1), 0);
            t.due("one left", x.of(2, 1), 1);
            t.due("back: 1", x.wind(1, 1), 3);
            t.due("there is none on any", Checks.town("50,00").wind(0, 5), 0);
        });
        E.promise(18, "from one SIDE (0, 1) to the other one", t -> {
            SnowForSummer x = swept();
            t.due("from 1", x.wind(1, 99), 31 + 33);
            t.due("SIDE 0", x.of(0, 1), 61);
            for (int from : new int[] {2, -1, Integer.MIN_VALUE, Integer.MAX_VALUE}) {
                Edges.idle(t, "wind(" + from + ", 1)", x, -1, () -> x.wind(from, 1));
            }
        });
        E.promise(18, "(999 at most): how many inches went in all", t -> {
            SnowForSummer x = swept();
            x.set(0, 2, 990);
            t.due("30 went, 9 found room", x.wind(0, 99), 30 + 32);
            t.due("999", x.of(0, 2), 999);
            t.due("none left", x.of(0, 1), 0);
        });
        E.promise(18, "NONE: others", t -> {
            SnowForSummer x = swept();
            for (int n : NOT_1_TO_99) {
                Edges.idle(t, "wind(0, " + n + ")", x, -1, () -> x.wind(0, n));
            }
        });
    }

    private static void loose() {
        E.promise(19, "of a SIDE (0 .. 13) now: its inches", t -> {
            SnowForSummer x = Checks.town("50,11;50,00;50,00;50,00;50,00;50,00;50,00");
            x.set(0, 1, 1);
            x.set(6, 2, 999);
            t.due("one inch of SIDE 0", x.loose(6, 0), 1);
            t.row("one inch", x, 1);
            t.due("999 of SIDE 13", x.loose(6, 13), 999);
            t.row("999, by THE RULE 99", x, 99);
            t.due("NOW stays", x.count(1), 0);
        });
        E.promise(19, "the ROW: DAYS that came to be owed by it", t -> {
            SnowForSummer x = Checks.town("50,06;50,11", "", "7");
            x.sheet(2, 4, 5, 0);
            x.loose(0, 0);
            t.row("its own onto its own PATH: none", x, 0);
            x.loose(1, 1);
            t.row("onto nobody's: none", x, 0);
            x.loose(0, 2);
            t.row("another one's onto that one's own", x, 7);
        });
        E.promise(19, "-2: no SNOW lies there", t -> {
            SnowForSummer x = swept();
            x.loose(0, 2);
            Edges.idle(t, "once more", x, -2, () -> x.loose(0, 2));
        });
        E.promise(19, "NONE: others", t -> {
            SnowForSummer x = swept();
            for (int house : NO_HOUSE_OF_TWO) {
                Edges.idle(t, "loose(" + house + ", 0)", x, -1, () -> x.loose(house, 0));
            }
            for (int side : NO_SIDE_OF_FOUR) {
                Edges.idle(t, "loose(0, " + side + ")", x, -1, () -> x.loose(0, side));
            }
        });
    }

    private static void work() {
        E.promise(20, "n DAYS (1 .. 99)", t -> {
            SnowForSummer x = Checks.debts(2, 0, 1, 150);
            t.due("1", x.work(0, 1, 1), 149);
            t.due("99", x.work(0, 1, 99), 50);
            for (int n : NOT_1_TO_99) {
                Edges.idle(t, "work(0, 1, " + n + ")", x, -1, () -> x.work(0, 1, n));
            }
        });
        E.promise(20, "-2: it does not owe so many", t -> {
            SnowForSummer x = Checks.debts(2, 0, 1, 20);
            Edges.idle(t, "21 of 20", x, -2, () -> x.work(0, 1, 21));
            Edges.idle(t, "the other way", x, -2, () -> x.work(1, 0, 1));
            t.due("20 of 20", x.work(0, 1, 20), 0);
            Edges.idle(t, "1 of none", x, -2, () -> x.work(0, 1, 1));
        });
        E.promise(20, "NONE: others, like ones", t -> {
            SnowForSummer x = Checks.debts(2, 0, 1, 20);
            for (int house : NO_HOUSE_OF_TWO) {
                Edges.idle(t, "work(" + house + ", 0, 1)", x, -1, () -> x.work(house, 0, 1));
                Edges.idle(t, "work(0, " + house + ", 1)", x, -1, () -> x.work(0, house, 1));
            }
            Edges.idle(t, "work(0, 0, 1)", x, -1, () -> x.work(0, 0, 1));
            Edges.idle(t, "work(1, 1, 1)", x, -1, () -> x.work(1, 1, 1));
        });
    }

    private static int nightOf(SnowForSummer x, String text) {
        return Checks.put(x, text).night();
    }

    private static void nightActs() {
        E.promise(21, "(an empty one: nothing)", t -> {
            SnowForSummer x = swept();
            t.due("empty", nightOf(x, ""), 0);
            t.row("empty", x, 0, 0);
            t.due("nothing to undo", x.count(6), 0);
        });
        E.promise(21, "s: sweep(), c: clear(), l: loose() by the first", t -> {
            SnowForSummer x = Checks.town("50,11;50,00;50,00");
            x.set(0, 1, 99);
            x.set(1, 2, 9);
            x.set(1, 3, 8);
            t.due("three ACTS", nightOf(x, "s00*99;c1*8;l211"), 3);
            t.row("three ACTS", x, 0, 9);
            t.due("swept", x.of(0, 2), 99);
            t.due("cleared", x.of(1, 3), 0);
            t.due("the first HOUSE owes", x.debt(2, 0), 9);
        });
        E.promise(21, "a number (1 or 2 digits)", t -> {
            SnowForSummer x = swept();
            t.due("5 and 05", nightOf(x, "s00*5;s00*05;s00*20"), 3);
            t.due("none left", x.of(0, 1), 0);
            t.due("three digits", nightOf(x, "s01*001"), -1 - 6);
        });
        E.promise(21, "d, and perhaps a digit 1 .. 9: so many DAYS (1) go by", t -> {
            SnowForSummer x = Checks.town("50,00", "1");
            t.due("d", nightOf(x, "d"), 1);
            t.due("NOW", x.count(1), 1);
            t.due("d1", nightOf(x, "d1"), 1);
            t.due("NOW behind d1", x.count(1), 2);
            t.due("d9", nightOf(x, "d9"), 1);
            t.due("NOW behind d9", x.count(1), 11);
            t.due("SNOW of eleven", x.of(0, 1), 11);
            t.due("d0", nightOf(x, "d0"), -1 - 1);
        });
        E.promise(21, "DAYS that came to be owed", t -> {
            SnowForSummer x = Checks.town("5,11;5,00", "3");
            t.due("three ACTS", nightOf(x, "d2;d2;d"), 3);
            t.row("two times four slides of 6", x, 0, 48);
            nightOf(x, "d");
            t.row("of this night alone", x, 0, 24);
        });
    }

    private static void nightRefused() {
        E.promise(21, "HOUSES are digits, whether there or not", t -> {
            for (String act : new String[] {"s20*1", "s91*1", "c2*1", "c9*1", "l200", "l900", "l020", "l091"}) {
                SnowForSummer x = swept();
                t.due(act, nightOf(x, act + ";d"), 0);
                t.row(act, x, 1, 0);
                t.due(act + ": NOW", x.count(1), 0);
            }
        });
        E.promise(21, "they are done one by one, till one is refused", t -> {
            SnowForSummer x = swept();
            t.due("the third has not so many", nightOf(x, "d;s00*20;s00*11;d;d"), 2);
            t.row("the third has not so many", x, 1, 0);
            t.due("the first two are done", x.of(0, 1), 10);
            t.due("those behind it are not", x.count(1), 1);
            t.due("a number of 0", nightOf(x, "d;c0*0;d"), 1);
            t.row("a number of 0", x, 1, 0);
            t.due("no SNOW to set off", nightOf(x, "l000;l000;d"), 1);
            t.row("no SNOW to set off", x, 1, 0);
        });
        E.promise(21, "1 if one was refused, else 0", t -> {
            SnowForSummer x = Checks.town("50,11;50,00");
            x.set(0, 1, 8);
            t.due("the last is refused", nightOf(x, "l000;s00*1"), 1);
            t.row("what was owed ahead of it is told", x, 1, 8);
            t.due("the first is refused", nightOf(x, "s00*1"), 0);
            t.row("the first is refused", x, 1, 0);
            t.due("none is", nightOf(x, "d"), 1);
            t.row("none is", x, 0, 0);
        });
    }

    private static void nightFaults() {
        E.promise(21, "its end, if it ends too early", t -> {
            String text = "s01*12;c9*3;l091;d;d9";
            String whole = " 0 5 6 11 16 18 20 21 ";
            for (int n = 0; n <= text.length(); n++) {
                SnowForSummer x = swept();
                int got = nightOf(x, text.substring(0, n));
                if (whole.contains(" " + n + " ")) {
                    t.due("the first " + n + " can stand", got >= 0, true);
                } else {
                    t.due("the first " + n, got, -1 - n);
                }
            }
        });
        E.promise(21, "-1 - p: the sign at p can't stand there; nothing is done then", t -> {
            String text = "s01*12;c9*3;l091;d;d9";
            for (int p = 0; p < text.length(); p++) {
                SnowForSummer x = swept();
                String ahead = Edges.image(x);
                t.due("! at " + p, nightOf(x, text.substring(0, p) + '!' + text.substring(p + 1)), -1 - p);
                t.due("! at " + p + ": nothing is done", Edges.image(x).equals(ahead), true);
            }
        });
        E.promise(21, "a HOUSE, a SIDE (0, 1)", t -> {
            String[] wrong = {"s02*1", "l002", "s0:*1", "l00/", "s:0*1", "c/*1", "l:00", "l0:0", "d:", "d/", "S00*1", "w0*1",
                "c:*1", "s/0*1", "l/00", "l0/0", "s0/*1", "l00:"};
            int[] places = {2, 3, 2, 3, 1, 1, 1, 2, 1, 1, 0, 0,
                1, 1, 1, 2, 2, 3};
            for (int i = 0; i < wrong.length; i++) {
                t.due(wrong[i], nightOf(swept(), wrong[i]), -1 - places[i]);
            }
        });
    }

    private static void nightLength() {
        E.promise(21, "60 signs", t -> {
            SnowForSummer x = Checks.town("50,00", "0");
            t.due("60", nightOf(x, "d" + Edges.times(29, ";d") + "9"), 30);
            t.due("29 and nine DAYS", x.count(1), 38);
            t.due("a second digit at 59", nightOf(x, "d9" + Edges.times(19, ";d9") + "9"), -1 - 59);
            t.due("59", nightOf(x, "d9" + Edges.times(19, ";d9")), 20);
            t.due("180 DAYS more", x.count(1), 218);
        });
        E.promise(21, "60, if it has more and the first 60 could go on or end", t -> {
            SnowForSummer x = Checks.town("50,00", "1");
            String thirty = "d" + Edges.times(29, ";d");
            t.due("61 that could end", nightOf(x, thirty + "9;"), -1 - 60);
            t.due("61, the last is wrong", nightOf(x, thirty + "9!"), -1 - 60);
            t.due("61 that could go on", nightOf(x, thirty + ";d"), -1 - 60);
            t.due("60 that end too early", nightOf(x, thirty + ";"), -1 - 60);
            t.due("a number up to the end", nightOf(x, Edges.times(27, "d;") + "s00*12"), 28);
            t.due("a number over the end", nightOf(x, Edges.times(26, "d;") + "d9;s00*12"), -1 - 60);
            t.due("the sixtieth is wrong", nightOf(x, thirty + "!dd"), -1 - 59);
            t.due("80", nightOf(x, Edges.times(40, "d;")), -1 - 60);
            t.due("NOW of the one that stood", x.count(1), 27);
        });
    }

    private static void undo() {
        E.promise(22, "of 12 that are kept, the latest ones", t -> {
            SnowForSummer x = Checks.town("50,00", "1");
            for (int n = 1; n <= 12; n++) {
                x.day();
                t.due("behind " + n, x.count(6), n);
            }
            x.day();
            t.due("a thirteenth", x.count(6), 12);
            for (int left = 11; left >= 0; left--) {
                t.due("undo", x.undo(), left);
                t.due("NOW", x.count(1), 1 + left);
            }
            t.due("the first can't be", x.undo(), -1);
            t.due("NOW behind all", x.count(1), 1);
        });
        E.promise(22, "SNOW, DEBTS, NOW are as ahead of it", t -> {
            SnowForSummer x = Checks.debts(3, 0, 1, 9, 1, 0, 7, 1, 2, 3);
            x.keep(0);
            x.again(0);
            x.sheet(2, 6, 10, 0);
            x.set(0, 3, 5);
            Runnable[] calls = {x::day, () -> x.days(1), () -> x.days(60), () -> x.sweep(0, 1), () -> x.clear(0, 1),
                () -> x.loose(1, 0), () -> x.work(0, 1, 1), x::cancel, x::rings, x::even, () -> x.wind(0, 1),
                () -> nightOf(x, "d;s00*1;l110;c9*9")};
            for (int i = 0; i < calls.length; i++) {
                x.least();
                String ahead = Edges.image(x);
                calls[i].run();
                t.due("call " + i + " is kept", x.count(6), 1);
                t.due("call " + i, x.undo(), 0);
                x.least();
                t.due("all as ahead of call " + i, Edges.image(x).equals(ahead), true);
            }
        });
        E.promise(22, "as ahead of it: not as ahead of what changed it otherwise", t -> {
            SnowForSummer x = Checks.debts(3, 0, 1, 90, 1, 0, 90, 1, 2, 3);
            Runnable[] calls = {x::day, () -> x.days(2), () -> x.sweep(0, 1), () -> x.clear(0, 1), () -> x.loose(1, 0),
                () -> x.work(0, 1, 1), () -> x.wind(0, 1), () -> nightOf(x, "d"), x::cancel, x::even, x::rings};
            for (int i = 0; i < calls.length; i++) {
                x.set(0, 1, 11 + i);
                x.set(0, 3, 31 + i);
                calls[i].run();
                x.undo();
                t.due("SNOW ahead of call " + i, x.of(0, 1), 11 + i);
                t.due("PATH ahead of call " + i, x.of(0, 3), 31 + i);
            }
        });
        E.promise(22, "Refused: none", t -> {
            SnowForSummer x = swept();
            Edges.idle(t, "undo", x, -1, x::undo);
            x.day();
            x.undo();
            Edges.idle(t, "undo again", x, -1, x::undo);
        });
        E.promise(22, "HOLD, HAY, HOUSES below, THE WEATHER, tracks are not undone", t -> {
            SnowForSummer x = Checks.town("50,00", "1");
            x.day();
            x.set(0, 0, 40);
            x.set(0, 6, 7);
            x.set(0, 4, 3);
            x.track(0, 5);
            Checks.put(x, "22").weather();
            x.undo();
            t.due("HOLD", x.of(0, 0), 40);
            t.due("HAY", x.of(0, 6), 7);
            t.due("below", x.of(0, 4), 3);
            t.due("tracks", x.count(7), 1);
            t.due("THE WEATHER", x.falls(0), 2);
        });
    }

    private static void undoOfRefused() {
        E.promise(22, "such as were not refused", t -> {
            SnowForSummer x = Checks.town("50,00;50,00");
            x.days(-1);
            x.days(61);
            x.sweep(0, 1);
            x.sweep(4, 1);
            x.clear(0, 1);
            x.clear(2, 1);
            x.loose(0, 0);
            x.loose(2, 0);
            x.work(0, 1, 1);
            x.work(0, 0, 1);
            x.cancel();
            x.wind(2, 1);
            nightOf(x, "x");
            t.due("none is kept", x.count(6), 0);
        });
        E.promise(22, "days() of 1 and more", t -> {
            SnowForSummer x = swept();
            x.days(0);
            t.due("days(0)", x.count(6), 0);
            x.days(1);
            t.due("days(1)", x.count(6), 1);
        });
        E.promise(22, "night() of which an ACT was done, as one", t -> {
            SnowForSummer x = swept();
            nightOf(x, "");
            nightOf(x, "s00*99;d");
            t.due("no ACT was done", x.count(6), 0);
            nightOf(x, "d;s00*99");
            t.due("one was done", x.count(6), 1);
            t.due("and undone", x.undo(), 0);
            nightOf(x, "d;d;s00*1;s00*99");
            t.due("three were done", x.count(6), 1);
            t.due("undone at once", x.undo(), 0);
            t.due("NOW", x.count(1), 0);
            t.due("SNOW", x.of(0, 1), 30);
        });
        E.promise(22, "rings() (that cleared one at least)", t -> {
            SnowForSummer x = Checks.debts(2, 0, 1, 3);
            x.keep(0);
            x.again(0);
            x.rings();
            t.due("none cleared", x.count(6), 0);
            Checks.owe(x, 1, 0, 3);
            int kept = x.count(6);
            x.rings();
            t.due("one cleared", x.count(6), kept + 1);
        });
        E.promise(22, "even(), wind()", t -> {
            SnowForSummer x = Checks.town("50,00");
            x.even();
            t.due("even() of no DEBTS", x.count(6), 1);
            x.wind(0, 1);
            t.due("wind() of no SNOW", x.count(6), 2);
        });
    }

    private static void forgetting() {
        E.promise(22, "town() forgets them", t -> {
            SnowForSummer x = swept();
            x.day();
            Checks.put(x, "50,00").town();
            t.due("none", x.count(6), 0);
            t.due("undo", x.undo(), -1);
            t.due("NOW", x.count(1), 1);
        });
        E.promise(22, "again() forgets them", t -> {
            SnowForSummer x = swept();
            x.keep(1);
            x.day();
            x.again(1);
            t.due("none", x.count(6), 0);
        });
        E.promise(22, "if they are not refused; an empty town() does not", t -> {
            SnowForSummer x = swept();
            x.day();
            Checks.put(x, "").town();
            t.due("an empty town()", x.count(6), 1);
            Checks.put(x, "50,00;").town();
            t.due("a refused town()", x.count(6), 1);
            x.again(0);
            x.again(2);
            t.due("a refused again()", x.count(6), 1);
            x.keep(0);
            t.due("keep()", x.count(6), 1);
            t.due("undo", x.undo(), 0);
        });
    }
}
