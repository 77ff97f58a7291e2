/** The edges that the document's terms 1 and 2 name. */
public final class EdgesOfTerms {
    private static final Edges E = new Edges(1, 0);
    private static final String[] NO_TEXT = {"", "x"};

    public static void main(String[] args) {
        houses();
        weather();
        slides();
        debts();
        ruleSigns();
        ruleThings();
        ruleNumbers();
        dayFalls();
        daySlides();
        rows();
        refused();
        E.finish();
    }

    private static void houses() {
        E.term(1, "HOUSES 0 .. (at most 7)", t -> {
            SnowForSummer x = Checks.town("1,00;2,00;3,00;4,00;5,00;6,00;7,00");
            t.due("seven", x.count(0), 7);
            t.due("the seventh", x.of(6, 0), 7);
            t.due("an eighth", Checks.put(x, "8,00").town(), -1);
            t.due("still seven", x.count(0), 7);
        });
        E.term(1, "inches of SNOW at first 0; HAY at first 0", t -> {
            SnowForSummer x = Checks.town("1,11", "9");
            x.days(60);
            Checks.put(x, "50,00").town();
            for (int what : new int[] {1, 2, 3, 6, 7, 8}) {
                t.due("of(1, " + what + ") of a HOUSE that came late", x.of(1, what), 0);
            }
        });
        E.term(1, "the HOUSES below: those that are there, this one, or one that comes later", t -> {
            SnowForSummer x = Checks.town("1,01;1,02");
            x.sheet(2, 4, 5, 0);
            x.day();
            t.due("its own PATH, and that of 1 above 0", x.of(0, 3), 5 + 5);
            t.due("one that came behind it in the text", x.of(1, 3), 5);
            t.due("2 is not there yet", x.count(3), 15);
            Checks.put(x, "1,00").town();
            x.set(1, 2, 5);
            x.day();
            t.due("2 came later", x.of(2, 3), 5);
            t.due("and is owed", x.debt(1, 2), 5);
        });
        E.term(1, "SNOW that slides to a HOUSE that is not there falls on nobody's PATH", t -> {
            SnowForSummer x = Checks.town("5,61", "", "99");
            x.sheet(2, 2, 6, 0);
            t.due("both slide", x.day(), 2);
            t.row("nothing owed, nothing on PATHS", x, 0, 0);
            t.due("nothing on roofs", x.count(2), 0);
            x.set(0, 1, 3);
            t.due("set off", x.loose(0, 0), 3);
            t.row("nothing owed", x, 0);
            Checks.put(x, "5,00;5,00;5,00;5,00;5,00;5,00").town();
            t.due("nor on a PATH that comes later", x.count(3), 0);
        });
    }

    private static void weather() {
        E.term(1, "THE WEATHER (at first none: nothing ever)", t -> {
            SnowForSummer x = Checks.town("5,00");
            x.set(0, 3, 4);
            t.due("days(60)", x.days(60), 0);
            t.row("days(60)", x, 0, 4);
            t.due("NOW", x.count(1), 60);
            t.due("falls(9999)", x.falls(9999), 0);
        });
        E.term(1, "of each DAY, one behind the other and again from the first on", t -> {
            SnowForSummer x = Checks.town("99,00", "12b");
            int[] lies = {1, 3, 1, 2, 4, 2, 3};
            for (int i = 0; i < lies.length; i++) {
                x.day();
                t.due("SNOW behind DAY " + i, x.of(0, 1), lies[i]);
            }
        });
        E.term(1, "in DAY d its sign number d % (how many) holds", t -> {
            SnowForSummer x = Checks.town("99,00", "12b");
            x.days(2);
            Checks.put(x, "5678").weather();
            x.day();
            t.due("NOW 2: the third sign of the new WEATHER", x.of(0, 1), 3 + 7);
            Checks.put(x, "9").weather();
            x.day();
            t.due("a single sign holds always", x.of(0, 1), 3 + 7 + 9);
        });
        E.term(1, "NOW (at first 0)", t -> {
            SnowForSummer x = new SnowForSummer();
            t.due("NOW", x.count(1), 0);
            x.day();
            t.due("NOW is 1 more, without HOUSES, too", x.count(1), 1);
        });
    }

    private static void slides() {
        E.term(1, "all its SNOW comes onto the PATH below (999 at most)", t -> {
            SnowForSummer x = Checks.town("9,11;9,00", "", "p");
            x.set(0, 1, 10);
            x.set(1, 3, 988);
            x.loose(0, 0);
            t.due("998", x.of(1, 3), 998);
            x.set(0, 1, 1);
            x.loose(0, 0);
            t.due("999", x.of(1, 3), 999);
            x.set(0, 1, 999);
            x.loose(0, 0);
            t.due("no more than 999", x.of(1, 3), 999);
            t.due("nothing is left on the SIDE", x.of(0, 1), 0);
        });
        E.term(1, "and who is to blame (whose roof it is) is another HOUSE than that", t -> {
            SnowForSummer x = Checks.town("3,01;3,11");
            x.set(0, 1, 4);
            x.set(0, 2, 5);
            x.day();
            t.row("its own PATH owes nothing", x, 5, 9);
            t.due("who owes", x.debt(0, 1), 5);
        });
        E.term(1, "or, if it was set off, who did", t -> {
            SnowForSummer x = Checks.town("50,01;50,11;50,22");
            x.sheet(2, 6, 5, 0);
            x.loose(1, 1);
            t.row("the one below set it off: nothing", x, 0);
            x.loose(1, 0);
            t.row("another one, onto the roof's own PATH", x, 5);
            t.due("owes it", x.debt(1, 0), 5);
            x.set(0, 2, 6);
            x.loose(2, 1);
            t.due("a third one owes, not whose roof it is", x.debt(2, 1), 6);
            t.due("whose roof it is", x.of(0, 7), 0);
        });
        E.term(1, "DAYS of work more: THE RULE, put to 0 .. 99", t -> {
            String[] rules = {"99", "100", "999", "999*999", "0", "0-1", "-999", "1"};
            int[] days = {99, 99, 99, 99, 0, 0, 0, 1};
            for (int i = 0; i < rules.length; i++) {
                t.due(rules[i], Edges.owes(rules[i]), days[i]);
            }
            SnowForSummer x = Checks.town("1,11;1,11");
            x.set(0, 1, 999);
            x.day();
            t.due("999 inches without a RULE", x.debt(0, 1), 99);
        });
    }

    private static void debts() {
        E.term(1, "DEBTS: 9999 at most each", t -> {
            SnowForSummer x = Checks.debts(2, 0, 1, 9998);
            t.due("9998", x.debt(0, 1), 9998);
            Checks.owe(x, 0, 1, 1);
            t.due("9999", x.debt(0, 1), 9999);
            Checks.owe(x, 0, 1, 1);
            t.due("no more", x.debt(0, 1), 9999);
            Checks.owe(x, 1, 0, 5);
            t.due("each of them", x.debt(1, 0), 5);
        });
        E.term(1, "DAYS that come to be owed are counted as THE RULE has them, all the same", t -> {
            SnowForSummer x = Checks.debts(2, 0, 1, 9990);
            x.set(0, 0, 4);
            x.set(0, 4, 1);
            x.set(0, 1, 50);
            t.due("ahead(1)", x.ahead(1), 50);
            t.row("ahead(1)", x, 1, 50, 0);
            x.keep(0);
            t.due("loose", x.loose(0, 0), 50);
            t.row("loose: 50, though 9 came", x, 50);
            t.due("9999", x.debt(0, 1), 9999);
            x.again(0);
            x.day();
            t.row("day: 50, though 9 came", x, 50, 50);
            t.due("9999, too", x.debt(0, 1), 9999);
        });
    }

    private static void ruleSigns() {
        E.term(1, "THE RULE (at first none: d)", t -> t.due("none", Edges.owes(""), 7));
        E.term(1, "< > = bind least (two; 1 or 0)", t -> {
            asRules(t, "d<7", 0, "d<8", 1, "d>7", 0, "d>6", 1, "d=7", 1, "d=8", 0, "d+1<2*5", 1, "d-1=2*3", 1, "1>0-1", 1,
                "5+(d<7)", 5, "5+(d>7)", 5, "5+(d=8)", 5, "5+(d<8)", 6, "5+(d>6)", 6, "5+(d=7)", 6);
        });
        E.term(1, "not one behind the other", t -> {
            asRules(t, "1<2<3", -1 - 3, "1=2>3", -1 - 3, "(1<2)<3", 1, "1<(2=3)", 0, "(1<2<3)", -1 - 4);
        });
        E.term(1, "then + - (from the left)", t -> asRules(t, "9-3-2", 4, "9-3+2", 8, "1+2*3", 7));
        E.term(1, "then * / (from the left; by 0: 0; cut to 0)", t -> {
            asRules(t, "80/4/2", 10, "2*3/4*5", 5, "9/(3-3)+4", 4, "0/0+3", 3, "7/2", 3, "9+-7/2", 6, "9+7/-2", 6, "9+-1/2", 9);
        });
        E.term(1, "then - ahead of a thing (any many)", t -> {
            asRules(t, "--d", 7, "---d+20", 13, "----d", 7, "-----d+20", 13, "9---d", 2, "9+-d", 2, "2*-d+20", 6, "9--(d)", 16, Edges.times(38, "-") + "d", 7,
                "0" + Edges.times(38, "-") + "d", 7, "50" + Edges.times(37, "-") + "d", 43);
        });
    }

    private static void asRules(Checks t, Object... rulesAndDays) {
        for (int i = 0; i < rulesAndDays.length; i += 2) {
            t.due("rule " + rulesAndDays[i], Edges.owes((String) rulesAndDays[i]), (Integer) rulesAndDays[i + 1]);
        }
    }

    private static void ruleThings() {
        E.term(1, "an EXPRESSION in ( ) (at most 4 in one another)", t -> {
            asRules(t, "((((d))))", 7, "(((((d)))))", -1 - 4, "((((d))))+((((1))))", 8, "1+((((d<(2", -1 - 8);
        });
        E.term(1, "of a SLIDE: d, p, t, o, n, x, h, b", t -> {
            asRules(t, "d", 7, "p", 2, "t", 4, "o", 9, "n", 3, "x", 1, "h", 1, "b+8", 8);
            SnowForSummer x = Checks.town("11,66;22,66;33,66;44,65", "", "o+10*h+b");
            Checks.put(x, "55,66;66,66;77,66").town();
            x.set(3, 2, 9);
            x.loose(0, 7);
            t.row("44 of HOUSE 3 onto 5", x, 79);
        });
        E.term(1, "p inches on the PATH ahead of it", t -> {
            SnowForSummer x = Checks.town("50,11;50,00", "", "p");
            x.set(0, 1, 5);
            x.set(0, 2, 6);
            x.loose(0, 0);
            t.row("none lay there", x, 0);
            x.loose(0, 1);
            t.row("what slid first", x, 5);
        });
        E.term(1, "t inches it thaws in that DAY (0, if none)", t -> {
            SnowForSummer x = Checks.town("50,11;50,00", "9i", "5+t");
            x.sheet(2, 2, 20, 0);
            x.loose(0, 0);
            t.row("9 fall", x, 5);
            x.day();
            x.loose(0, 1);
            t.row("9 thaw", x, 14);
            Checks.put(x, "").weather();
            x.set(0, 1, 20);
            x.loose(0, 0);
            t.row("no WEATHER", x, 5);
        });
        E.term(1, "x 1 if it was set off", t -> {
            SnowForSummer x = Checks.town("5,11;5,00", "", "3+x");
            x.sheet(2, 2, 6, 0);
            x.loose(0, 0);
            t.row("set off", x, 4);
            x.day();
            t.row("by itself", x, 3, 12);
        });
        E.term(1, "n the number of the DAY", t -> {
            SnowForSummer x = Checks.town("5,11;5,00", "", "n");
            x.days(40);
            x.sheet(2, 2, 6, 0);
            x.loose(0, 0);
            t.row("set off NOW", x, 40);
            x.day();
            t.row("in the DAY that goes by", x, 40, 12);
        });
    }

    private static void ruleNumbers() {
        E.term(1, "a NUMBER of 1 to 3 digits", t -> {
            asRules(t, "7", 7, "07", 7, "007", 7, "0007", -1 - 3, "999-950", 49, "1000", -1 - 3);
        });
        E.term(1, "As ints", t -> {
            asRules(t, "999*999*999*9/999/999-300", 83, "5+(999*999*999*3<0)", 6, "5+(512*512*512*16/-1<0)", 6,
                "512*512*512*32", 0, "512*512*512*32+9", 9);
        });
    }

    private static void dayFalls() {
        E.term(1, "each SIDE and each PATH has so many inches more (999 at most)", t -> {
            SnowForSummer x = Checks.town("99,66;99,66", "9");
            x.set(0, 3, 990);
            x.set(1, 3, 991);
            x.set(0, 1, 90);
            x.day();
            t.due("999", x.of(0, 3), 999);
            t.due("999 at most", x.of(1, 3), 999);
            t.due("99 on a SIDE", x.of(0, 1), 99);
            t.due("9 on another", x.of(1, 2), 9);
            SnowForSummer y = Checks.town("99,11;99,00", "9", "d-950");
            y.set(0, 1, 990);
            y.set(0, 2, 995);
            y.day();
            t.row("999 at most slid from each SIDE", y, 49 + 49, 999 + 9);
        });
        E.term(1, "if it thaws, so many less (0 at least)", t -> {
            SnowForSummer x = Checks.town("99,66", "d");
            x.set(0, 1, 5);
            x.set(0, 2, 4);
            x.set(0, 3, 3);
            x.day();
            t.due("one left", x.of(0, 1), 1);
            t.due("none left", x.of(0, 2), 0);
            t.due("0 at least", x.of(0, 3), 0);
        });
        E.term(1, "a digit 0 .. 9 (so many inches fall)", t -> {
            SnowForSummer x = Checks.town("99,66", "0");
            x.day();
            t.due("0: nothing falls", x.count(2) + x.count(3), 0);
        });
    }

    private static void daySlides() {
        E.term(1, "if its SNOW is more than HOLD it SLIDES", t -> {
            SnowForSummer x = Checks.town("5,66");
            x.set(0, 1, 5);
            t.due("as much as HOLD", x.day(), 0);
            x.set(0, 1, 6);
            t.due("one more", x.day(), 1);
        });
        E.term(1, "HOLD, less what it thaws that DAY", t -> {
            SnowForSummer x = Checks.town("5,66", "b");
            x.set(0, 1, 5);
            t.due("3 are not more than 3", x.day(), 0);
            x.set(0, 1, 6);
            t.due("4 are", x.day(), 1);
        });
        E.term(1, "less what it thaws that DAY (0 at least)", t -> {
            SnowForSummer x = Checks.town("5,66", "g");
            x.set(0, 1, 7);
            t.due("nothing is left to slide", x.day(), 0);
            x.set(0, 1, 8);
            t.due("one inch slides", x.day(), 1);
        });
        E.term(1, "(1) SNOW falls (2) it SLIDES", t -> {
            SnowForSummer x = Checks.town("5,11;99,00", "3", "10*d+p");
            x.set(0, 1, 3);
            x.day();
            t.row("6 inches slid onto 3", x, 63, 3 + 9);
        });
        E.term(1, "HOUSE by HOUSE, SIDE 0, then 1", t -> {
            SnowForSummer x = Checks.town("5,22;5,22;5,00", "", "p");
            x.set(0, 1, 10);
            x.set(0, 2, 20);
            x.set(1, 1, 30);
            x.set(1, 2, 7);
            x.day();
            t.due("0 and 10", x.debt(0, 2), 10);
            t.due("30 and 60", x.debt(1, 2), 90);
        });
    }

    private static void rows() {
        E.term(2, "numbers told last by a call that says so", t -> {
            SnowForSummer x = Checks.town("5,11;5,00", "3");
            x.day();
            t.row("told by day()", x, 0, 6);
            x.sweep(0, 1);
            x.clear(0, 1);
            x.wind(0, 1);
            x.slides(0);
            x.melt();
            x.undo();
            x.debt(0, 1);
            t.row("calls that tell none leave it", x, 0, 6);
            x.least();
            t.row("a shorter one takes its place", x, 0);
        });
        E.term(2, "Rows of numbers are compared from the first on", t -> {
            SnowForSummer x = Checks.debts(5, 0, 4, 1, 4, 1, 1, 1, 0, 1, 0, 2, 1, 2, 3, 1, 3, 0, 1);
            x.ring();
            t.row("0 2 3 ahead of 0 4 1", x, 0, 2, 3, 1);
            SnowForSummer y = Checks.town("9,11;9,00");
            y.sheet(2, 2, 5, 0);
            t.due("nothing owed", y.best(2, 4), 0);
            t.row("0 1 (0 0 owes) ahead of 1 0, 14 14", y, 0, 1);
        });
        E.term(2, "A SIDE is told as 2 times the HOUSE, and the SIDE", t -> {
            SnowForSummer x = Checks.town("9,00;9,00");
            x.set(1, 2, 8);
            t.due("sweep(3, 2)", x.sweep(3, 2), 2);
            t.due("above(0)", x.above(0), 4 + 8);
            t.row("above(0)", x, 8, 3);
        });
    }

    /** A town in which much is set, so that a change would be seen. */
    private static SnowForSummer busy() {
        SnowForSummer x = Checks.town("9,11*5;9,02*6;9,00", "3a4", "d+1");
        x.sheet(2, 6, 3, 2);
        x.loose(0, 0);
        x.loose(1, 3);
        x.track(1, 4);
        x.keep(0);
        return x;
    }

    private static void refused() {
        E.term(2, "Refused calls answer NONE, or false, and change nothing", t -> {
            SnowForSummer x = Checks.put(busy(), "abc");
            Edges.idle(t, "winter", x, -1, () -> x.winter(1, 41));
            Edges.idle(t, "set", x, -1, () -> x.set(0, 0, 100));
            Edges.idle(t, "track", x, -1, () -> x.track(0, 1000));
            Edges.idle(t, "keep", x, 0, () -> x.keep(2) ? 1 : 0);
            SnowForSummer y = Checks.put(busy(), "abc");
            Edges.idle(t, "again", y, 0, () -> y.again(1) ? 1 : 0);
            Edges.idle(t, "end", y, 0, () -> y.end(4) ? 1 : 0);
            Edges.idle(t, "days", y, -1, () -> y.days(61));
            SnowForSummer z = new SnowForSummer();
            Edges.idle(t, "undo", z, -1, z::undo);
        });
        E.term(2, "THE TEXT, which a call that reads it empties", t -> {
            for (String text : NO_TEXT) {
                SnowForSummer x = busy();
                String ahead = Edges.image(x);
                Checks.put(x, text).town();
                t.due("town of '" + text + "' leaves all else", Edges.image(x).equals(ahead), true);
            }
            SnowForSummer x = busy();
            String ahead = Edges.image(x);
            Checks.put(x, "x").weather();
            t.due("weather() leaves all else", Edges.image(x).equals(ahead), true);
            Checks.put(x, "1+").rule();
            t.due("rule() leaves all else", Edges.image(x).equals(ahead), true);
            Checks.put(x, "d;x").night();
            t.due("night() leaves all else", Edges.image(x).equals(ahead), true);
            x.set(2, 1, 5);
            x.loose(2, 4);
            t.row("THE RULE stays", x, 6);
        });
    }
}
