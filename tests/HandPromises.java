/** Promises 44 to 51: hands and roofs. */
public final class HandPromises {
    private static final Checks T = new Checks();

    public static void main(String[] args) {
        best();
        own();
        better();
        rests();
        rough();
        turned();
        needs();
        premium();
        nothingChanges();
        T.finish();
    }

    private static void best() {
        SnowForSummer x = Checks.town("5,11;50,00", "3");
        x.set(0, 1, 4);
        T.due("two inches swept", x.best(1, 2), 0);
        T.row("two inches swept", x, 0);
        T.due("all swept slide there", x.best(1, 9), 7);
        T.row("of as few the least row", x, 0);
        T.due("two days", x.best(2, 2), 7);
        T.row("two days", x, 14, 1);
        SnowForSummer y = Checks.town("5,11;50,00");
        y.set(0, 1, 4);
        y.set(0, 2, 4);
        T.due("none", y.best(2, 9), 0);
        T.row("none", y, 14, 14);
        T.due("a few", y.best(3, 1), 0);
        T.row("a few", y, 0, 1, 0);
        y.set(0, 1, 99);
        y.set(0, 2, 0);
        T.due("hands 99", y.best(1, 99), 99);
        T.row("hands 99", y, 0);
        T.due("best(0, 1)", y.best(0, 1), -1);
        T.due("best(4, 1)", y.best(4, 1), -1);
        T.due("best(1, 0)", y.best(1, 0), -1);
        T.due("best(1, 100)", y.best(1, 100), -1);
        T.row("refused: the ROW stays", y, 0);
        SnowForSummer none = new SnowForSummer();
        T.due("no HOUSES", none.best(3, 9), 0);
        T.row("no HOUSES", none, 14, 14, 14);
    }

    private static void own() {
        SnowForSummer x = Checks.town("5,11;5,00", "3");
        x.set(0, 1, 4);
        x.set(1, 1, 4);
        T.due("all with one pair of hands", x.best(1, 2), 7);
        T.row("all with one pair of hands", x, 0);
        T.due("own(0)", x.own(0, 1, 2), 0);
        T.row("own(0)", x, 0);
        T.due("own(1)", x.own(1, 1, 2), 0);
        T.row("own(1)", x, 2);
        x.set(1, 1, 0);
        T.due("no SNOW to sweep", x.own(1, 1, 2), 0);
        T.row("no SNOW to sweep", x, 14);
        T.due("own(2, 1, 1)", x.own(2, 1, 1), -1);
        T.due("own(-1, 1, 1)", x.own(-1, 1, 1), -1);
        T.due("own(0, 0, 1)", x.own(0, 0, 1), -1);
        T.due("own(0, 4, 1)", x.own(0, 4, 1), -1);
        T.due("own(0, 1, 0)", x.own(0, 1, 0), -1);
        T.due("own(0, 1, 100)", x.own(0, 1, 100), -1);
        T.row("refused: the ROW stays", x, 14);
    }

    private static void better() {
        SnowForSummer x = Checks.town("5,10;50,00", "3");
        x.set(0, 1, 4);
        x.set(0, 2, 4);
        T.due("4 now, not 7", x.better(0, 1), 1);
        T.row("4 now, not 7", x, 4, 7);
        T.due("4 now, 6 then, or 7", x.better(0, 2), 0);
        T.row("4 now, 6 then, or 7", x, 10, 7);
        T.due("onto its own PATH", x.better(1, 1), 0);
        T.row("onto its own PATH", x, 7, 7);
        T.due("no SNOW", x.better(2, 1), -2);
        T.due("better(4, 1)", x.better(4, 1), -1);
        T.due("better(-1, 1)", x.better(-1, 1), -1);
        T.due("better(0, 0)", x.better(0, 0), -1);
        T.due("better(0, 61)", x.better(0, 61), -1);
        T.row("these leave the ROW", x, 7, 7);
        Checks.put(x, "d+9*x").rule();
        T.due("what is set off owes more", x.better(0, 1), 0);
        T.row("what is set off owes more", x, 13, 7);
    }

    private static void rests() {
        SnowForSummer x = Checks.town("5,11;5,00", "3");
        x.sheet(2, 3, 4, 0);
        T.due("three sides, then a round without", x.rests(1, 20), 2);
        T.row("three sides", x, 1, 7);
        T.due("one round", x.rests(1, 1), 1);
        T.row("one round", x, 0, 7);
        T.due("no rounds", x.rests(1, 0), 0);
        T.row("no rounds", x, 0, 0);
        T.due("not better for two days", x.rests(2, 20), 1);
        T.row("not better for two days", x, 1, 0);
        T.due("rests(0, 1)", x.rests(0, 1), -1);
        T.due("rests(31, 1)", x.rests(31, 1), -1);
        T.due("rests(1, 21)", x.rests(1, 21), -1);
        T.due("rests(1, -1)", x.rests(1, -1), -1);
        T.row("refused: the ROW stays", x, 1, 0);
        T.due("rests(30, 20)", x.rests(30, 20) > 0, true);
        // Once house 1 has set off its side, the deep path makes it cheaper for house 0 too.
        SnowForSummer y = Checks.town("1,22;1,02;9,00", "", "30-p*x");
        y.set(0, 1, 10);
        y.set(1, 2, 10);
        y.set(2, 3, 0);
        T.due("house 1 goes first in no round", y.rests(1, 9), 1);
        y.set(2, 3, 1);
        T.due("both in the first", y.rests(1, 9), 2);
        T.row("both in the first", y, 1, 9);
    }

    private static void rough() {
        SnowForSummer x = Checks.town("5,11;5,00;50,00", "3");
        x.set(0, 1, 4);
        x.set(1, 1, 5);
        T.due("house 1 slides more", x.rough(9, 1), 1);
        T.row("house 1 slides more", x, 7);
        T.due("of equal ones the first", x.rough(5, 1), 0);
        T.row("of equal ones the first", x, 15);
        T.due("rough(99, 0)", x.rough(99, 0), 0);
        T.row("rough(99, 0)", x, 0);
        T.due("rough(1, 1): the third's slides come to less than more", x.rough(1, 1), 0);
        T.row("rough(1, 1)", x, 7 + 3 + 8);
        T.due("rough(0, 1)", x.rough(0, 1), -1);
        T.due("rough(100, 1)", x.rough(100, 1), -1);
        T.due("rough(1, 61)", x.rough(1, 61), -1);
        T.due("rough(1, -1)", x.rough(1, -1), -1);
        T.row("refused: the ROW stays", x, 18);
        T.due("HOLD stays", x.of(1, 0), 5);
        T.due("no HOUSES", new SnowForSummer().rough(1, 1), -2);
    }

    private static void turned() {
        SnowForSummer x = Checks.town("5,01;5,10;50,00", "3");
        x.set(0, 2, 4);
        x.set(1, 2, 5);
        T.due("house 1 turned", x.turned(1), 1);
        T.row("house 1 turned", x, 7);
        x.set(1, 2, 4);
        T.due("of equal ones the first", x.turned(1), 0);
        T.row("of equal ones the first", x, 7);
        T.due("turned(0)", x.turned(0), 0);
        T.row("turned(0)", x, 0);
        T.due("turned(61)", x.turned(61), -1);
        T.due("turned(-1)", x.turned(-1), -1);
        T.row("refused: the ROW stays", x, 0);
        T.due("SIDES stay", x.of(0, 5), 1);
        T.due("no HOUSES", new SnowForSummer().turned(1), -2);
    }

    private static void needs() {
        SnowForSummer x = Checks.town("5,11;5,06", "3");
        x.set(0, 1, 4);
        T.due("needs(0, 1)", x.needs(0, 1), 7);
        T.due("needs(0, 30)", x.needs(0, 30), 94);
        T.due("needs(0, 32): more than 99", x.needs(0, 32), -2);
        T.due("needs(0, 0)", x.needs(0, 0), 1);
        T.due("needs(2, 1)", x.needs(2, 1), -1);
        T.due("needs(-1, 1)", x.needs(-1, 1), -1);
        T.due("needs(0, 61)", x.needs(0, 61), -1);
        T.due("needs(0, -1)", x.needs(0, -1), -1);
        T.due("HOLD stays", x.of(0, 0), 5);
        Checks.put(x, "d*(o<3)+5*(o>3)").rule();
        T.due("a rule by HOLD", x.needs(0, 60), 3);
        T.due("onto its own PATH or nobody's", Checks.town("5,06", "9").needs(0, 60), 1);
    }

    private static void premium() {
        SnowForSummer x = Checks.town("5,12;8,01;2,66", "3");
        T.due("premium(3)", x.premium(3), 12 - 7);
        T.row("premium(3)", x, 7, 7, 7);
        x.set(0, 1, 1);
        T.due("can't be parted", x.premium(2), 13 - 5);
        T.row("can't be parted", x, 5, 4, 4);
        T.due("premium(0)", x.premium(0), 0);
        T.row("premium(0)", x, 0, 0, 0);
        SnowForSummer alike = Checks.town("5,11;5,00", "3", "1");
        T.due("1 each side, alike", alike.premium(2), 0);
        T.row("alike", alike, 2, 2);
        T.noSuch("premium(61)", () -> x.premium(61));
        T.noSuch("premium(-1)", () -> x.premium(-1));
        T.noSuch("no HOUSES", () -> new SnowForSummer().premium(1));
        T.row("refused: the ROW stays", x, 0, 0, 0);
    }

    private static void nothingChanges() {
        SnowForSummer x = Checks.town("5,12;8,01;2,66", "3");
        x.days(2);
        x.best(3, 9);
        x.own(0, 3, 9);
        x.better(2, 60);
        x.rests(30, 20);
        x.rough(9, 60);
        x.turned(60);
        x.needs(0, 60);
        x.premium(60);
        T.due("NOW", x.count(1), 2);
        T.due("roofs", x.count(2), 12);
        T.due("PATHS", x.count(3), 30);
        T.due("DEBTS", x.count(4), 12);
        T.due("to undo", x.count(6), 1);
        T.due("HOLD", x.of(1, 0), 8);
        T.due("below", x.of(1, 4), 0);
    }
}
