/** Promises 34 to 43: days to come, nobody lifting a hand. */
public final class AheadPromises {
    private static final Checks T = new Checks();

    public static void main(String[] args) {
        ahead();
        slides();
        later();
        deepest();
        lord();
        worst();
        melt();
        lazy();
        dig();
        bare();
        nothingChanges();
        T.finish();
    }

    /** House 0 holds 5 above 1 and 2, house 1 holds 8 above 0 and itself, house 2 is above nobody. 3 a day. */
    private static SnowForSummer three() {
        return Checks.town("5,12;8,01;2,66", "3");
    }

    private static void ahead() {
        SnowForSummer x = three();
        T.due("ahead(0)", x.ahead(0), 0);
        T.row("ahead(0)", x, 0, 0, 0, 0);
        T.due("ahead(1): only onto nobody", x.ahead(1), 0);
        T.row("ahead(1)", x, 2, 0, 0, 0);
        T.due("ahead(3)", x.ahead(3), 6 + 6 + 9);
        T.row("ahead(3)", x, 6 + 2 + 2, 12, 9, 0);
        T.due("ahead(61)", x.ahead(61), -1);
        T.due("ahead(-1)", x.ahead(-1), -1);
        SnowForSummer none = new SnowForSummer();
        T.due("no HOUSES", none.ahead(60), 0);
        T.row("no HOUSES", none, 0);
    }

    private static void slides() {
        SnowForSummer x = three();
        int[] due = {2, 2, 3, 3, 1, 1};
        for (int side = 0; side < 6; side++) {
            T.due("slides(" + side + ")", x.slides(side), due[side]);
        }
        T.due("slides(6)", x.slides(6), -1);
        T.due("slides(-1)", x.slides(-1), -1);
        Checks.put(x, "000000000000000000000000000001").weather();
        x.set(0, 1, 4);
        T.due("slides on day 60", x.slides(0), 60);
        x.set(0, 1, 3);
        T.due("not in these", x.slides(0), -2);
        x.set(0, 1, 6);
        T.due("at once", x.slides(0), 1);
    }

    private static void later() {
        SnowForSummer x = three();
        T.due("later(2, 0)", x.later(2, 0), 0);
        T.row("later(2, 0)", x, 0, 0, 0);
        T.due("later(2, 2)", x.later(2, 2), 6);
        T.row("later(2, 2)", x, 6, 12, 12);
        T.due("later(3, 3)", x.later(3, 3), 0);
        T.row("later(3, 3)", x, 18, 24, 15);
        T.due("later(6, 1)", x.later(6, 1), -1);
        T.due("later(-1, 1)", x.later(-1, 1), -1);
        T.due("later(0, 61)", x.later(0, 61), -1);
        T.due("later(0, -1)", x.later(0, -1), -1);
        T.row("refused: the ROW stays", x, 18, 24, 15);
    }

    private static void deepest() {
        SnowForSummer x = Checks.town("50,11;50,00", "b4cc3");
        x.set(0, 3, 8);
        T.due("now", x.deepest(0, 0), 8);
        T.row("now", x, 0);
        T.due("now is the deepest", x.deepest(0, 1), 8);
        T.row("now is the deepest", x, 0);
        T.due("on the second day", x.deepest(0, 5), 10);
        T.row("on the second day", x, 2);
        x.set(0, 3, 0);
        T.due("equal ones: the first", x.deepest(0, 20), 5);
        T.row("equal ones: the first", x, 7);
        T.due("deepest(2, 1)", x.deepest(2, 1), -1);
        T.due("deepest(-1, 1)", x.deepest(-1, 1), -1);
        T.due("deepest(0, 61)", x.deepest(0, 61), -1);
        T.due("deepest(0, -1)", x.deepest(0, -1), -1);
    }

    private static void lord() {
        SnowForSummer x = three();
        T.due("of none they are more", x.lord(1), -2);
        T.due("no ROW yet", x.count(8), 0);
        T.due("of equal ones the first", x.lord(2), 1);
        T.row("of equal ones the first", x, 6);
        T.due("lord(3)", x.lord(3), 0);
        T.row("lord(3)", x, 9);
        T.due("lord(0)", x.lord(0), -2);
        T.due("lord(61)", x.lord(61), -1);
        T.due("lord(-1)", x.lord(-1), -1);
        T.row("the ROW stays", x, 9);
        SnowForSummer full = Checks.town("1,11;99,22;5,00", "9", "99");
        full.days(60);
        Checks.put(full, "1").rule();
        full.set(1, 0, 1);
        T.due("DEBTS that can't be more", full.lord(3), 2);
        T.row("DEBTS that can't be more", full, 6);
    }

    private static void worst() {
        SnowForSummer x = three();
        T.due("worst(1)", x.worst(1), 1);
        T.row("worst(1)", x, 2);
        T.due("worst(2)", x.worst(2), 2);
        T.row("worst(2)", x, 4);
        T.due("worst(5): the third has as many", x.worst(5), 2);
        T.due("worst(6): all six on the sixth", x.worst(6), 6);
        T.row("worst(6)", x, 6);
        Checks.put(x, "").weather();
        T.due("none", x.worst(60), -2);
        T.row("none: the ROW stays", x, 6);
        T.due("worst(0)", x.worst(0), -1);
        T.due("worst(61)", x.worst(61), -1);
    }

    private static void melt() {
        SnowForSummer x = Checks.town("50,00;50,00", "a");
        T.due("no SNOW now", x.melt(), 0);
        x.set(1, 3, 4);
        T.due("on a PATH", x.melt(), 4);
        x.set(0, 1, 60);
        T.due("after 12 days it slides, 12 less each day: 60 in all", x.melt(), 60);
        x.set(0, 1, 61);
        T.due("not in these", x.melt(), -2);
        x.set(0, 4, 6);
        T.due("onto nobody", x.melt(), 4);
    }

    private static void lazy() {
        SnowForSummer x = three();
        T.due("lazy(0)", x.lazy(0), 7);
        T.row("lazy(0)", x, 7);
        T.due("lazy(2)", x.lazy(2), 6);
        T.row("lazy(2)", x, 1);
        T.due("lazy(3)", x.lazy(3), 4);
        T.row("lazy(3)", x, 0);
        Checks.put(x, "0").rule();
        T.due("a rule of 0", x.lazy(3), 7);
        T.row("but they slide", x, 0);
        T.due("lazy(61)", x.lazy(61), -1);
        T.due("lazy(-1)", x.lazy(-1), -1);
    }

    private static void dig() {
        SnowForSummer x = Checks.town("5,11;50,00", "3b");
        x.set(1, 3, 7);
        T.due("now is enough", x.dig(1, 7, 0), 0);
        T.due("now", x.dig(1, 5, 0), 2);
        T.due("a day", x.dig(1, 10, 1), 0);
        T.due("a day, one less", x.dig(1, 9, 1), 1);
        T.due("all", x.dig(1, 3, 1), 7);
        T.due("all do not do", x.dig(1, 2, 1), -2);
        T.due("two days: not more", x.dig(1, 9, 2), 1);
        x.set(0, 1, 500);
        T.due("with the slide", x.dig(1, 507, 1), 6);
        x.set(0, 1, 999);
        T.due("999 at most", x.dig(1, 999, 60), 0);
        T.due("998", x.dig(1, 998, 1), -2);
        T.due("v 1000", x.dig(1, 1000, 1), -1);
        T.due("v -1", x.dig(1, -1, 1), -1);
        T.due("n 61", x.dig(1, 5, 61), -1);
        T.due("n -1", x.dig(1, 5, -1), -1);
        T.due("none such", x.dig(2, 5, 1), -1);
        T.due("none such below 0", x.dig(-1, 5, 1), -1);
        T.due("PATH stays", x.of(1, 3), 7);
    }

    private static void bare() {
        SnowForSummer x = Checks.town("5,10;50,00", "3");
        x.set(0, 1, 4);
        T.due("7 inches less", x.bare(0, 1), 7);
        T.due("6 come all the same on the second day", x.bare(0, 2), 7 - 6);
        T.due("bare(1, 1)", x.bare(1, 1), 0);
        T.due("bare(0, 0)", x.bare(0, 0), 0);
        Checks.put(x, "10-d").rule();
        T.due("more", x.bare(0, 2), 3 - 4);
        T.noSuch("bare(2, 1)", () -> x.bare(2, 1));
        T.noSuch("bare(-1, 1)", () -> x.bare(-1, 1));
        T.noSuch("bare(0, 61)", () -> x.bare(0, 61));
        T.noSuch("bare(0, -1)", () -> x.bare(0, -1));
        T.due("SNOW stays", x.of(0, 1), 4);
    }

    private static void nothingChanges() {
        SnowForSummer x = three();
        x.days(2);
        x.ahead(60);
        x.slides(0);
        x.later(0, 60);
        x.deepest(0, 60);
        x.lord(60);
        x.worst(60);
        x.melt();
        x.lazy(60);
        x.dig(0, 500, 60);
        x.bare(0, 60);
        T.due("NOW", x.count(1), 2);
        T.due("roofs", x.count(2), 12);
        T.due("PATHS", x.count(3), 30);
        T.due("DEBTS", x.count(4), 12);
        T.due("to undo", x.count(6), 1);
    }
}
