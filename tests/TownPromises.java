/** Promises 1 to 13: a new object, texts, the town. */
public final class TownPromises {
    private static final Checks T = new Checks();

    public static void main(String[] args) {
        newObject();
        signAndEnd();
        town();
        townFaults();
        weather();
        rule();
        ruleFaults();
        winterAndFalls();
        ofAndSet();
        sheet();
        above();
        debt();
        T.finish();
    }

    private static void newObject() {
        SnowForSummer x = new SnowForSummer();
        for (int what = 0; what <= 9; what++) {
            T.due("new: count(" + what + ")", x.count(what), 0);
        }
        T.due("new: falls(0)", x.falls(0), 0);
        T.noSuch("new: of(0, 0)", () -> x.of(0, 0));
        T.noSuch("new: row(0)", () -> x.row(0));
        T.due("new: undo()", x.undo(), SnowForSummer.NONE);
        T.due("NONE", SnowForSummer.NONE, -1);
    }

    private static void signAndEnd() {
        SnowForSummer x = new SnowForSummer();
        for (int n = 4; n <= 80; n += 4) {
            T.due("sign", x.sign(0x31323334), n);
        }
        T.due("sign beyond 80", x.sign(0), -1);
        T.due("count(9)", x.count(9), 80);
        T.due("end(81)", x.end(81), false);
        T.due("end(-1)", x.end(-1), false);
        T.due("end(80)", x.end(80), true);
        T.due("end(77)", x.end(77), true);
        T.due("count(9) of 77", x.count(9), 77);
        T.due("sign with room for three", x.sign(0), -1);
        T.due("end(76)", x.end(76), true);
        T.due("sign with room for four", x.sign(0), 80);
        T.due("end(2)", x.end(2), true);
        T.due("end(3) of two", x.end(3), false);
        T.due("weather of 12", x.weather(), 2);
        T.due("highest byte first", x.falls(0), 1);
        T.due("then the next", x.falls(1), 2);
        x.sign(0xFF303030);
        x.end(1);
        T.due("a sign 255", x.weather(), -1);
    }

    private static int readTown(String text) {
        return Checks.put(new SnowForSummer(), text).town();
    }

    private static void town() {
        T.due("empty town", readTown(""), 0);
        T.due("one line", readTown("1,06"), 1);
        T.due("HOLD 05", readTown("05,00"), 1);
        T.due("HAY 00", readTown("5,00*00"), 1);
        T.due("HAY 30", readTown("99,66*30;1,00*7"), 2);
        SnowForSummer x = Checks.town("12,34*30;5,00");
        T.due("HOLD", x.of(0, 0), 12);
        T.due("below 0", x.of(0, 4), 3);
        T.due("below 1", x.of(0, 5), 4);
        T.due("HAY", x.of(0, 6), 30);
        T.due("no HAY", x.of(1, 6), 0);
        for (int what = 1; what <= 3; what++) {
            T.due("no SNOW at first", x.of(1, what), 0);
        }
        T.due("text is emptied", x.count(9), 0);
        T.due("bad line behind a good one", Checks.put(x, "7,00;x").town(), -6);
        T.due("text is emptied by a fault", x.count(9), 0);
        T.due("nothing came", x.count(0), 2);
        T.due("two more", Checks.put(x, "7,61;8,00").town(), 2);
        T.due("four now", x.count(0), 4);
        T.due("the third's HOLD", x.of(2, 0), 7);
        T.due("the third's below", x.of(2, 4), 6);
        Checks.put(x, "7,00;7,00;7,00;7,00").town();
        T.due("no room for the fourth of these", x.count(0), 4);
        T.due("no room", Checks.put(x, "7,00;7,00;7,00;7,00").town(), -1 - 15);
        T.due("room for three", Checks.put(x, "7,00;7,00;7,00").town(), 3);
        T.due("no room for any", Checks.put(x, "x").town(), -1);
        T.due("but for nothing", Checks.put(x, "").town(), 0);
    }

    private static void townFaults() {
        String[] texts = {"0", "0x", "00", "0,00", "00,00", "123,00", "1", "1;", "1,", "1,0", "1,07", "1,70", "1,000",
            "1,00*", "1,00*;", "1,00*31", "1,00*99x", "1,00*300", "1,00*4x", "1,00;", "1,00;;", ";", " 1,00", "-1,00",
            "1,00*30;0,00", "1,00 ", ":,00", "1:,00", "1,00*:", "1,00*1:", "1/,00", "1,0/"};
        int[] places = {0, 0, 1, 0, 1, 2, 1, 1, 2, 3, 3, 2, 4,
            5, 5, 6, 6, 7, 6, 5, 5, 0, 0, 0,
            8, 4, 0, 1, 5, 6, 1, 3};
        for (int i = 0; i < texts.length; i++) {
            T.due("town " + texts[i], readTown(texts[i]), -1 - places[i]);
        }
        String longest = "99,00*30;99,00*30;99,00*30;99,00*30;99,00*30;99,00*30;99,00*30";
        T.due("longest town", readTown(longest), 7);
        T.due("an eighth line", readTown(longest + ";99,00*30;99,00*3"), -1 - 63);
    }

    private static void weather() {
        SnowForSummer x = new SnowForSummer();
        T.due("weather", Checks.put(x, "09ai5").weather(), 5);
        int[] falls = {0, 9, -1, -9, 5, 0, 9};
        for (int day = 0; day < falls.length; day++) {
            T.due("falls(" + day + ")", x.falls(day), falls[day]);
        }
        T.due("j is no weather", Checks.put(x, "01j").weather(), -3);
        T.due("weather stays", x.count(5), 5);
        T.due("text is emptied", x.count(9), 0);
        String forty = "0123456789abcdefghi0123456789abcdefghi01";
        T.due("41 signs", Checks.put(x, forty + "2").weather(), -41);
        T.due("41 signs, the last one bad", Checks.put(x, forty + "x").weather(), -41);
        T.due("45 signs, the fortieth bad", Checks.put(x, forty.substring(0, 39) + "xxxxxx").weather(), -40);
        T.due("40 signs", Checks.put(x, forty).weather(), 40);
        T.due("falls(39)", x.falls(39), 1);
        T.due("falls(9999)", x.falls(9999), 1);
        T.due("falls(-1)", x.falls(-1), -10);
        T.due("falls(10000)", x.falls(10000), -10);
        T.due("no weather", Checks.put(x, "").weather(), 0);
        T.due("nothing falls", x.falls(3), 0);
        T.due("upper case", Checks.put(x, "A").weather(), -1);
        T.due("a sign behind 9", Checks.put(x, "9:").weather(), -2);
        T.due("a sign ahead of 0", Checks.put(x, "0/").weather(), -2);
        T.due("a sign ahead of a", Checks.put(x, "a`").weather(), -2);
        T.due("a sign 0", Checks.put(x, "1" + (char) 0).weather(), -2);
    }

    /** What a slide of 7 inches from house 1 (HOLD 9) onto house 0 (2 inches) owes in day 3, when it thaws 4. */
    private static int owes(String rule) {
        SnowForSummer x = Checks.town("5,00;9,00;3,00", "000d");
        x.days(3);
        x.set(1, 2, 7);
        x.set(0, 3, 2);
        if (Checks.put(x, rule).rule() != 0) {
            return -99;
        }
        x.loose(2, 3);
        T.due("debt of " + rule, x.debt(2, 0), x.row(0));
        return x.row(0);
    }

    private static void rule() {
        String[] rules = {"", "d", "p", "t", "o", "n", "x", "h", "b+5", "12", "007", "999", "0-3", "-d", "--d", "---d+20",
            "d-p-t", "d+p*t", "(d+p)*t", "d/p", "-d/2+9", "(0-d)/2+9", "d/0+4", "2*3/4*5", "d<o", "d>o", "d=7", "d=6",
            "(d<o)+(p<o)", "d-1<o-2*1", "d--3", "d*-1+9", "((((d))))", "99-(3-(2-(1)))",
            "1+2*3-4/2", "9-3-2", "80/4/2", "t*(d>5)+p"};
        int[] days = {7, 7, 2, 4, 9, 3, 1, 1, 5, 12, 7, 99, 0, 0, 7, 13,
            1, 15, 36, 3, 6, 6, 4, 5, 1, 0, 1, 0,
            2, 1, 10, 2, 7, 97,
            5, 4, 10, 6};
        for (int i = 0; i < rules.length; i++) {
            T.due("rule " + rules[i], owes(rules[i]), days[i]);
        }
        T.due("wraps round", owes("999*999*999*9/999/999-300"), 83);
        T.due("wraps round below 0", owes("5+(999*999*999*3<0)"), 6);
        T.due("the least int by -1", owes("5+(512*512*512*16/-1<0)"), 6);
        T.due("40 signs", Checks.put(new SnowForSummer(), "d+d+d+d+d+d+d+d+d+d+d+d+d+d+d+d+d+d+d+-d").rule(), 0);
        T.due("many minuses", owes("--------------------------------------8d".substring(0, 39)), 8);
        SnowForSummer x = Checks.town("5,11;5,11", "", "d*2");
        x.set(0, 1, 4);
        T.due("a bad rule", Checks.put(x, "d*").rule(), -3);
        x.loose(0, 0);
        T.due("the old rule stays", x.debt(0, 1), 8);
        Checks.put(x, "").rule();
        x.set(0, 1, 4);
        x.loose(0, 0);
        T.due("no rule: d", x.debt(0, 1), 12);
    }

    private static void ruleFaults() {
        String[] texts = {"z", "D", "d+", "+d", "d+*d", "d<p<t", "d<p=t", "d=", "(d", "(d))", "()", "((((d)))", "(((((d",
            "(((((", "1000", "2d", "dd", "d(", "-", "d-", "(d<p)<(t", "d<(p<t<o)", "d d", "4*(d+1", "d*/2", ")", ":", "1:", "12:"};
        int[] places = {0, 0, 2, 0, 2, 3, 3, 2, 2, 3, 1, 8, 4,
            4, 3, 1, 1, 1, 1, 2, 8, 6, 1, 6, 2, 0, 0, 1, 2};
        for (int i = 0; i < texts.length; i++) {
            T.due("rule " + texts[i], Checks.put(new SnowForSummer(), texts[i]).rule(), -1 - places[i]);
        }
        String forty = "d+d+d+d+d+d+d+d+d+d+d+d+d+d+d+d+d+d+d+-d";
        T.due("41 signs that could go on", Checks.put(new SnowForSummer(), forty + "+").rule(), -41);
        T.due("41 signs, the last one bad", Checks.put(new SnowForSummer(), forty + "z").rule(), -41);
        T.due("41 signs, the first 40 can't end", Checks.put(new SnowForSummer(), "-" + forty).rule(), -41);
        T.due("44 signs, the fortieth bad", Checks.put(new SnowForSummer(), forty.substring(0, 39) + ")zzzz").rule(), -40);
    }

    private static void winterAndFalls() {
        SnowForSummer x = new SnowForSummer();
        int r = -77;
        int snowy = 0;
        int[] due = new int[40];
        for (int i = 0; i < 40; i++) {
            r = r * 1103515245 + 12345;
            int drawn = (int) ((r & 0xFFFFFFFFL) / 65536 % 16);
            due[i] = drawn < 10 ? drawn : -(drawn - 9);
            snowy += due[i] > 0 ? 1 : 0;
        }
        T.due("winter(-77, 40)", x.winter(-77, 40), snowy);
        for (int day = 0; day < 40; day++) {
            T.due("drawn falls(" + day + ")", x.falls(day), due[day]);
        }
        T.due("count(5)", x.count(5), 40);
        T.due("winter(1, 41)", x.winter(1, 41), -1);
        T.due("winter(1, 0)", x.winter(1, 0), -1);
        T.due("winter(1, -1)", x.winter(1, -1), -1);
        T.due("weather stays", x.count(5), 40);
        x.sign(0x30303030);
        x.winter(-77, 3);
        T.due("three days", x.count(5), 3);
        T.due("again from the first on", x.falls(3), due[0]);
        T.due("winter() leaves THE TEXT", x.count(9), 4);
    }

    private static void ofAndSet() {
        SnowForSummer x = Checks.debts(3, 0, 1, 7, 2, 1, 5, 0, 2, 1);
        T.due("owes", x.of(0, 7), 8);
        T.due("is owed", x.of(1, 8), 12);
        T.due("owes nothing", x.of(1, 7), 0);
        T.due("is owed one", x.of(2, 8), 1);
        for (int bad : new int[] {-1, 9, 100}) {
            T.noSuch("of(0, " + bad + ")", () -> x.of(0, bad));
        }
        T.noSuch("of(3, 0)", () -> x.of(3, 0));
        T.noSuch("of(-1, 0)", () -> x.of(-1, 0));
        int[] least = {1, 0, 0, 0, 0, 0, 0};
        int[] most = {99, 999, 999, 999, 6, 6, 30};
        int[] old = {99, 0, 0, 0, 0, 0, 0};
        for (int what = 0; what < 7; what++) {
            T.due("set too little " + what, x.set(2, what, least[what] - 1), -1);
            T.due("set too much " + what, x.set(2, what, most[what] + 1), -1);
            T.due("nothing changed " + what, x.of(2, what), old[what]);
            T.due("set most " + what, x.set(2, what, most[what]), old[what]);
            T.due("of most " + what, x.of(2, what), most[what]);
            T.due("set least " + what, x.set(2, what, least[what]), most[what]);
        }
        T.due("set(2, 7, 1)", x.set(2, 7, 1), -1);
        T.due("set(2, -1, 1)", x.set(2, -1, 1), -1);
        T.due("set(3, 0, 1)", x.set(3, 0, 1), -1);
        T.due("set(-1, 0, 1)", x.set(-1, 0, 1), -1);
        T.due("others stay", x.of(1, 0), 99);
    }

    private static void sheet() {
        SnowForSummer x = Checks.town("5,11;5,11");
        x.set(0, 3, 8);
        T.due("ints", x.sheet(2, 4, 5, 600), 5 + 605 + 999 + 999);
        T.due("the second", x.of(0, 2), 605);
        T.due("entries of houses that are not there", x.sheet(2, 14, 1, 1), 1 + 2 + 3 + 4);
        T.due("bytes", x.sheet(0, 3, 260, 120), 4 + 124);
        T.due("a byte below 0", x.of(1, 1), 0);
        T.due("behind it 0", x.of(1, 2), 0);
        T.due("shorts", x.sheet(1, 4, 65536 + 7, 32760), 7 + 999 + 999);
        T.due("a short above 999", x.of(0, 2), 999);
        T.due("a short below 0", x.of(1, 1), 0);
        T.due("ints wrap round", x.sheet(2, 2, Integer.MAX_VALUE, 2), 999);
        T.due("n below 0", x.sheet(2, -1, 1, 1), -2);
        T.due("nothing changed", x.count(2), 999);
        T.due("n above 14", x.sheet(2, 15, 1, 1), -1);
        T.due("missing, n above 14", x.sheet(3, 15, 1, 1), -1);
        T.due("kind 4", x.sheet(4, -1, 1, 1), -1);
        T.due("kind -1", x.sheet(-1, 1, 1, 1), -1);
        T.due("nothing changed by these", x.count(2), 999);
        T.due("missing", x.sheet(3, -5, 1, 1), -3);
        T.due("all 0", x.count(2), 0);
        T.due("PATHS stay", x.of(0, 3), 8);
        T.due("no entries", x.sheet(1, 0, 5, 5), 0);
    }

    private static void above() {
        SnowForSummer x = Checks.town("5,01;5,02;5,10");
        T.due("above(0)", x.above(0), 4 + 32);
        T.row("above(0)", x, 0, -1);
        x.set(0, 1, 50);
        x.set(1, 1, 3);
        x.set(2, 2, 3);
        T.due("above(0) with SNOW", x.above(0), 36);
        T.row("above(0) with SNOW", x, 6, 2);
        x.set(2, 2, 4);
        x.above(0);
        T.row("above(0), more on the second", x, 7, 5);
        T.due("above(2)", x.above(2), 8);
        T.due("above(3)", x.above(3), -1);
        T.due("above(-1)", x.above(-1), -1);
        T.row("a refused call leaves the ROW", x, 0, -1);
    }

    private static void debt() {
        SnowForSummer x = Checks.debts(2, 0, 1, 250);
        T.due("debt(0, 1)", x.debt(0, 1), 250);
        T.due("debt(1, 0)", x.debt(1, 0), 0);
        T.due("debt(1, 1)", x.debt(1, 1), -1);
        T.due("debt(0, 2)", x.debt(0, 2), -1);
        T.due("debt(2, 0)", x.debt(2, 0), -1);
        T.due("debt(-1, 0)", x.debt(-1, 0), -1);
        T.due("debt(0, -1)", x.debt(0, -1), -1);
    }
}
