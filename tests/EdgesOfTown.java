/** The edges that promises 1 to 13 name: a new object, texts, the town. */
public final class EdgesOfTown {
    private static final Edges E = new Edges(1, 13);
    private static final String LONGEST_LINE = "99,66*30";
    private static final String FORTY = "0123456789abcdefghi0123456789abcdefghi01";
    /** 40 signs that are a whole rule. */
    private static final String FORTY_RULE = Edges.times(19, "d+") + "-d";

    public static void main(String[] args) {
        newObject();
        emptyTown();
        sign();
        end();
        town();
        townEnds();
        townRoom();
        weather();
        rule();
        winter();
        falls();
        of();
        set();
        sheetKinds();
        sheetRefused();
        above();
        debt();
        E.finish();
    }

    private static void newObject() {
        E.promise(1, "No HOUSES", t -> {
            SnowForSummer x = new SnowForSummer();
            t.due("count(0)", x.count(0), 0);
            t.noSuch("of(0, 0)", () -> x.of(0, 0));
            t.due("set(0, 0, 5)", x.set(0, 0, 5), -1);
            t.due("above(0)", x.above(0), -1);
            t.due("debt(0, 1)", x.debt(0, 1), -1);
        });
        E.promise(1, "no WEATHER", t -> {
            SnowForSummer x = new SnowForSummer();
            t.due("count(5)", x.count(5), 0);
            t.due("falls(0)", x.falls(0), 0);
        });
        E.promise(1, "all else is at its first", t -> {
            SnowForSummer x = new SnowForSummer();
            for (int what = 0; what <= 9; what++) {
                t.due("count(" + what + ")", x.count(what), 0);
            }
            t.due("again(0)", x.again(0), false);
            t.due("undo()", x.undo(), -1);
        });
    }

    private static void emptyTown() {
        E.promise(1, "No HOUSES: calls that need one are refused", t -> {
            SnowForSummer x = new SnowForSummer();
            Edges.idle(t, "sweep", x, -1, () -> x.sweep(0, 1));
            Edges.idle(t, "clear", x, -1, () -> x.clear(0, 1));
            Edges.idle(t, "loose", x, -1, () -> x.loose(0, 0));
            Edges.idle(t, "work", x, -1, () -> x.work(0, 1, 1));
            Edges.idle(t, "works", x, -1, () -> x.works(0, 1));
            Edges.idle(t, "slides", x, -1, () -> x.slides(0));
            Edges.idle(t, "later", x, -1, () -> x.later(0, 0));
            Edges.idle(t, "deepest", x, -1, () -> x.deepest(0, 0));
            Edges.idle(t, "dig", x, -1, () -> x.dig(0, 0, 0));
            Edges.idle(t, "own", x, -1, () -> x.own(0, 1, 1));
            Edges.idle(t, "better", x, -1, () -> x.better(0, 1));
            Edges.idle(t, "needs", x, -1, () -> x.needs(0, 0));
            Edges.idle(t, "track", x, -1, () -> x.track(0, 0));
        });
        E.promise(1, "No HOUSES: calls about all of them", t -> {
            SnowForSummer x = new SnowForSummer();
            t.due("sheet", x.sheet(2, 14, 5, 5), 0);
            t.due("wind", x.wind(0, 99), 0);
            t.due("days(60)", x.days(60), 0);
            t.due("ring", x.ring(), -2);
            t.due("least", x.least(), 0);
            t.due("even", x.even(), 0);
            t.due("debtor", x.debtor(), -2);
            t.due("june", x.june(), 0);
            t.row("june", x, -1);
            t.due("summer", x.summer(), 0);
            t.due("hay(60)", x.hay(60), 0);
            t.due("ahead(60)", x.ahead(60), 0);
            t.row("ahead(60)", x, 0);
            t.due("lazy(60)", x.lazy(60), 0);
            t.row("lazy(60)", x, 0);
            t.due("melt", x.melt(), 0);
            t.due("rests(30, 20)", x.rests(30, 20), 1);
            t.row("rests(30, 20)", x, 1, 0);
            t.due("best(3, 99)", x.best(3, 99), 0);
            t.row("best(3, 99)", x, 14, 14, 14);
        });
    }

    private static void sign() {
        E.promise(2, "Four signs come behind THE TEXT: how many it has", t -> {
            SnowForSummer x = new SnowForSummer();
            t.due("the first four", x.sign(0), 4);
            t.due("four more", x.sign(-1), 8);
            x.end(5);
            t.due("behind five", x.sign(0x31323334), 9);
        });
        E.promise(2, "of v the highest byte first", t -> {
            SnowForSummer x = new SnowForSummer();
            x.sign(0x31323334);
            t.due("1234", x.weather(), 4);
            for (int day = 0; day < 4; day++) {
                t.due("sign " + day, x.falls(day), day + 1);
            }
            x.sign(0x3132FF34);
            t.due("the third is 255", x.weather(), -1 - 2);
            x.sign(0x31B23334);
            t.due("all eight bits of the second", x.weather(), -1 - 1);
        });
        E.promise(2, "Refused: there would be more than 80", t -> {
            for (int length = 77; length <= 80; length++) {
                SnowForSummer x = Checks.put(new SnowForSummer(), Edges.times(length, "1"));
                Edges.idle(t, "sign behind " + length, x, -1, () -> x.sign(0x32323232));
            }
            SnowForSummer x = Checks.put(new SnowForSummer(), Edges.times(76, "1"));
            t.due("sign behind 76", x.sign(0), 80);
        });
    }

    private static void end() {
        E.promise(3, "THE TEXT has its first n signs alone: true", t -> {
            SnowForSummer x = Checks.put(new SnowForSummer(), "12345678");
            t.due("all of them", x.end(8), true);
            t.due("eight", x.count(9), 8);
            t.due("three", x.end(3), true);
            t.due("the first three", x.weather(), 3);
            t.due("the third", x.falls(2), 3);
            t.due("none of none", x.end(0), true);
            x.sign(0x31313131);
            t.due("none", x.end(0), true);
            t.due("empty", x.count(9), 0);
        });
        E.promise(3, "false if it has not so many", t -> {
            SnowForSummer x = Checks.put(new SnowForSummer(), "12345");
            Edges.idle(t, "end(6)", x, 0, () -> x.end(6) ? 1 : 0);
            Edges.idle(t, "end(the most)", x, 0, () -> x.end(Integer.MAX_VALUE) ? 1 : 0);
            t.due("end(1) of an empty one", new SnowForSummer().end(1), false);
        });
        E.promise(3, "or n is below 0", t -> {
            SnowForSummer x = Checks.put(new SnowForSummer(), "12345");
            Edges.idle(t, "end(-1)", x, 0, () -> x.end(-1) ? 1 : 0);
            Edges.idle(t, "end(the least)", x, 0, () -> x.end(Integer.MIN_VALUE) ? 1 : 0);
        });
    }

    private static int readTown(String text) {
        return Checks.put(new SnowForSummer(), text).town();
    }

    private static void towns(Checks t, Object... textsAndAnswers) {
        for (int i = 0; i < textsAndAnswers.length; i += 2) {
            t.due("town " + textsAndAnswers[i], readTown((String) textsAndAnswers[i]), (Integer) textsAndAnswers[i + 1]);
        }
    }

    private static void town() {
        E.promise(4, "(an empty one: nothing): how many LINES", t -> {
            SnowForSummer x = Checks.town("5,00");
            t.due("empty", Checks.put(x, "").town(), 0);
            t.due("one as ahead", x.count(0), 1);
            t.due("two LINES", Checks.put(x, "5,00;6,00").town(), 2);
            t.due("three", x.count(0), 3);
        });
        E.promise(4, "HOLD (1 or 2 digits, not 0)", t -> {
            towns(t, "1,00", 1, "99,00", 1, "01,00", 1, "10,00", 1, "100,00", -1 - 2, "011,00", -1 - 2, ",00", -1);
            t.due("01", Checks.town("01,00").of(0, 0), 1);
            t.due("10", Checks.town("10,00").of(0, 0), 10);
        });
        E.promise(4, "a HOLD of 0: at the last digit", t -> {
            towns(t, "0,00", -1, "00,00", -1 - 1, "5,00;0,00", -1 - 5, "5,00;00,00", -1 - 6, "0x", -1, "00x", -1 - 1,
                "0", -1, "00", -1 - 1, "001,00", -1 - 1);
        });
        E.promise(4, "two digits: 0 .. 6", t -> {
            towns(t, "5,66", 1, "5,67", -1 - 3, "5,70", -1 - 2, "5,6", -1 - 3, "5,666", -1 - 4, "5,-1", -1 - 2);
        });
        E.promise(4, "perhaps * and a number (1 or 2 digits, 0 .. 30: HAY)", t -> {
            towns(t, "5,00*0", 1, "5,00*00", 1, "5,00*30", 1, "5,00*9", 1, "5,00*030", -1 - 7, "5,00*300", -1 - 7);
            t.due("30", Checks.town("5,00*30").of(0, 6), 30);
            t.due("07", Checks.town("5,00*07").of(0, 6), 7);
        });
        E.promise(4, "HAY above 30: at the last digit", t -> {
            towns(t, "5,00*31", -1 - 6, "5,00*40", -1 - 6, "5,00*99", -1 - 6, "5,00*31x", -1 - 6, "5,00*999", -1 - 6,
                "5,00;5,00*31;", -1 - 11);
        });
        E.promise(4, "Nothing of it comes, if a LINE can't", t -> {
            SnowForSummer x = Checks.town("5,00", "3");
            x.day();
            String ahead = Edges.image(x);
            t.due("the second can't", Checks.put(x, "7,00*4;0,00").town(), -1 - 7);
            t.due("all as ahead", Edges.image(x).equals(ahead), true);
            t.due("it can be told again", Checks.put(x, "8,01").town(), 1);
            t.due("HOLD", x.of(1, 0), 8);
            t.due("no HAY of the refused one", x.of(1, 6), 0);
        });
    }

    private static void townEnds() {
        E.promise(4, "its end, if it ends too early", t -> {
            String text = "12,34*30;5,66*1";
            String whole = " 0 5 7 8 13 15 ";
            for (int n = 0; n <= text.length(); n++) {
                int lines = n == 0 ? 0 : n < 9 ? 1 : 2;
                int due = whole.contains(" " + n + " ") ? lines : -1 - n;
                t.due("the first " + n, readTown(text.substring(0, n)), due);
            }
        });
        E.promise(4, "the sign at p can't stand there", t -> {
            String text = "12,34*30;5,66*1";
            for (int p = 0; p < text.length(); p++) {
                for (char wrong : new char[] {'!', 0, 255, 'a', '/', ':'}) {
                    String told = text.substring(0, p) + wrong + text.substring(p + 1);
                    t.due(told, readTown(told), -1 - p);
                }
            }
            t.due("behind it", readTown(text + ","), -1 - text.length());
        });
        E.promise(4, "76, if it has more and the first 76 could go on: seven LINES end at 62", t -> {
            String seven = LONGEST_LINE + Edges.times(6, ";" + LONGEST_LINE);
            t.due("seven of the longest", readTown(seven), 7);
            t.due("and ;", readTown(seven + ";"), -1 - 63);
            t.due("80 signs", readTown(seven + Edges.times(2, ";" + LONGEST_LINE)), -1 - 63);
            t.due("80 signs of nothing", readTown(Edges.times(80, " ")), -1);
        });
    }

    private static void townRoom() {
        E.promise(4, "the first sign of a LINE for which there is no room", t -> {
            SnowForSummer x = Checks.town("1,00;1,00;1,00;1,00;1,00");
            t.due("two have room, the third not", Checks.put(x, "10,00;1,00*3;1,00").town(), -1 - 13);
            t.due("none came", x.count(0), 5);
            t.due("though it can't stand further on", Checks.put(x, "1,00;1,00;1,0x").town(), -1 - 10);
            t.due("two", Checks.put(x, "1,00;1,00").town(), 2);
            t.due("no room for one", Checks.put(x, "1,00").town(), -1);
            t.due("a HOLD of 00 without room", Checks.put(x, "00,00").town(), -1);
            t.due("an empty one needs none", Checks.put(x, "").town(), 0);
        });
    }

    private static void weather() {
        E.promise(5, "(an empty one: none): how many signs", t -> {
            SnowForSummer x = Checks.town("99,00", "5");
            t.due("one", x.count(5), 1);
            t.due("empty", Checks.put(x, "").weather(), 0);
            t.due("none", x.count(5), 0);
            x.day();
            t.due("nothing falls", x.of(0, 1), 0);
            t.due("40", Checks.put(x, FORTY).weather(), 40);
            t.due("the fortieth", x.falls(39), 1);
        });
        E.promise(5, "a digit 0 .. 9 or a letter a .. i", t -> {
            SnowForSummer x = new SnowForSummer();
            t.due("09ai", Checks.put(x, "09ai").weather(), 4);
            int[] falls = {0, 9, -1, -9};
            for (int day = 0; day < 4; day++) {
                t.due("falls(" + day + ")", x.falls(day), falls[day]);
            }
        });
        E.promise(5, "-1 - p: the sign at p can't stand there", t -> {
            for (char wrong : new char[] {'/', ':', '`', 'j', 'A', 0, 255}) {
                SnowForSummer x = Checks.town("5,00", "55");
                String ahead = Edges.image(x);
                t.due("first " + (int) wrong, Checks.put(x, wrong + "1").weather(), -1);
                t.due("last " + (int) wrong, Checks.put(x, "123" + wrong).weather(), -1 - 3);
                t.due("THE WEATHER is as ahead", Edges.image(x).equals(ahead), true);
            }
        });
        E.promise(5, "40, if it has more and the first 40 could go on or end", t -> {
            SnowForSummer x = new SnowForSummer();
            t.due("41", Checks.put(x, FORTY + "1").weather(), -1 - 40);
            t.due("41, the last is wrong", Checks.put(x, FORTY + "x").weather(), -1 - 40);
            t.due("80", Checks.put(x, FORTY + FORTY).weather(), -1 - 40);
            t.due("41, the fortieth is wrong", Checks.put(x, FORTY.substring(1) + "x1").weather(), -1 - 39);
            t.due("none came", x.count(5), 0);
        });
    }

    private static int readRule(String text) {
        return Checks.put(new SnowForSummer(), text).rule();
    }

    private static void rule() {
        E.promise(6, "(an empty one: none): 0", t -> {
            SnowForSummer x = Checks.town("9,11;9,00", "", "50");
            t.due("empty", Checks.put(x, "").rule(), 0);
            x.set(0, 1, 6);
            x.loose(0, 0);
            t.row("none: d", x, 6);
        });
        E.promise(6, "its end, if it ends too early", t -> {
            String text = "-(d+12*(3<p))/-t";
            String whole = " 0 16 13 ";
            for (int n = 0; n <= text.length(); n++) {
                t.due("the first " + n, readRule(text.substring(0, n)), whole.contains(" " + n + " ") ? 0 : -1 - n);
            }
        });
        E.promise(6, "-1 - p: the sign at p can't stand there", t -> {
            String text = "-(d+12*(3<p))/-t";
            for (int p = 0; p < text.length(); p++) {
                String told = text.substring(0, p) + '!' + text.substring(p + 1);
                t.due(told, readRule(told), -1 - p);
            }
            String[] wrong = {"d<", "d>", "d=", "d+", "d-", "d*", "d/", "-", "(", "d)", "d(", "dp", "d1", "1d", "*d", "d**d", "d<>p", "()", "(d)(p)", "+1", "D", "e"};
            int[] places = {2, 2, 2, 2, 2, 2, 2, 1, 1, 1, 1, 1, 1, 1, 0, 2, 2, 1, 3, 0, 0, 0};
            for (int i = 0; i < wrong.length; i++) {
                t.due(wrong[i], readRule(wrong[i]), -1 - places[i]);
            }
        });
        E.promise(6, "40, if it has more and the first 40 could go on or end", t -> {
            t.due("40", readRule(FORTY_RULE), 0);
            t.due("41 that could end", readRule(FORTY_RULE + "+"), -1 - 40);
            t.due("41, the last is wrong", readRule(FORTY_RULE + "!"), -1 - 40);
            t.due("41 that could go on", readRule(Edges.times(20, "d+") + "d"), -1 - 40);
            t.due("40 that end too early", readRule(Edges.times(20, "d+")), -1 - 40);
            t.due("a ( is open at 40", readRule("(" + FORTY_RULE.substring(2) + "+)"), -1 - 40);
            t.due("a number over the end", readRule(Edges.times(19, "d+") + "1234"), -1 - 40);
            t.due("a fourth digit at 39", readRule(Edges.times(18, "d+") + "1234+d"), -1 - 39);
            t.due("the fortieth is wrong", readRule(Edges.times(19, "d+") + "d!d"), -1 - 39);
        });
        E.promise(6, "refused: THE RULE is as ahead", t -> {
            SnowForSummer x = Checks.town("9,11;9,00", "", "50");
            Checks.put(x, "20+").rule();
            x.set(0, 1, 6);
            x.loose(0, 0);
            t.row("50", x, 50);
        });
    }

    private static int drawn(int seed) {
        long r = (seed * 1103515245L + 12345L) & 0xFFFFFFFFL;
        return (int) (r / 65536 % 16);
    }

    private static int seedThatDraws(int wanted) {
        for (int seed = -5000; seed < 0; seed++) {
            if (drawn(seed) == wanted) {
                return seed;
            }
        }
        return 0;
    }

    private static void winter() {
        E.promise(7, "n DAYS (1 .. 40)", t -> {
            SnowForSummer x = Checks.town("5,00", "55");
            for (int n : new int[] {0, 41, -1, Integer.MIN_VALUE, Integer.MAX_VALUE}) {
                Edges.idle(t, "winter(3, " + n + ")", x, -1, () -> x.winter(3, n));
            }
            x.winter(3, 1);
            t.due("one", x.count(5), 1);
            x.winter(3, 40);
            t.due("40", x.count(5), 40);
        });
        E.promise(7, "0 .. 9: so many inches fall, 10 .. 15: it thaws 1 .. 6 inches", t -> {
            for (int wanted = 0; wanted < 16; wanted++) {
                SnowForSummer x = new SnowForSummer();
                t.due("a DRAW of " + wanted, x.winter(seedThatDraws(wanted), 1), wanted > 0 && wanted < 10 ? 1 : 0);
                t.due("falls for " + wanted, x.falls(0), wanted < 10 ? wanted : 9 - wanted);
            }
        });
        E.promise(7, "as ints; R is seed at first; R without sign", t -> {
            for (int seed : new int[] {Integer.MIN_VALUE, Integer.MAX_VALUE, -1, 0, 1}) {
                SnowForSummer x = new SnowForSummer();
                int r = seed;
                int snowy = 0;
                int answer = x.winter(seed, 40);
                for (int day = 0; day < 40; day++) {
                    int due = drawn(r);
                    snowy += due > 0 && due < 10 ? 1 : 0;
                    t.due("seed " + seed + ", DAY " + day, x.falls(day), due < 10 ? due : 9 - due);
                    r = r * 1103515245 + 12345;
                }
                t.due("winter(" + seed + ", 40)", answer, snowy);
            }
        });
    }

    private static void falls() {
        E.promise(8, "What falls in a DAY (0 .. 9999)", t -> {
            SnowForSummer x = Checks.town("5,00", "1234567");
            t.due("falls(0)", x.falls(0), 1);
            t.due("falls(7)", x.falls(7), 1);
            t.due("falls(9999)", x.falls(9999), 9999 % 7 + 1);
        });
        E.promise(8, "or, below 0, how much it thaws", t -> {
            SnowForSummer x = Checks.town("5,00", "ai");
            t.due("one", x.falls(0), -1);
            t.due("nine", x.falls(1), -9);
        });
        E.promise(8, "-10: another DAY", t -> {
            SnowForSummer x = Checks.town("5,00", "5");
            for (int day : new int[] {-1, 10000, Integer.MIN_VALUE, Integer.MAX_VALUE}) {
                Edges.idle(t, "falls(" + day + ")", x, -10, () -> x.falls(day));
            }
            t.due("without WEATHER", new SnowForSummer().falls(10000), -10);
        });
    }

    private static void of() {
        E.promise(9, "NoSuchElementException: none such", t -> {
            SnowForSummer x = Checks.town("5,00;6,00", "3");
            for (int house : new int[] {2, 6, 7, -1, Integer.MIN_VALUE, Integer.MAX_VALUE}) {
                for (int what = 0; what <= 8; what += 4) {
                    int w = what;
                    Edges.idleThrow(t, "of(" + house + ", " + what + ")", x, () -> x.of(house, w));
                }
            }
            t.due("the last one is there", x.of(1, 0), 6);
        });
        E.promise(9, "another what", t -> {
            SnowForSummer x = Checks.town("5,00;6,00", "3");
            for (int what : new int[] {9, -1, Integer.MIN_VALUE, Integer.MAX_VALUE}) {
                Edges.idleThrow(t, "of(0, " + what + ")", x, () -> x.of(0, what));
            }
            t.due("the last what", x.of(0, 8), 0);
        });
    }

    private static void set() {
        int[] least = {1, 0, 0, 0, 0, 0, 0};
        int[] most = {99, 999, 999, 999, 6, 6, 30};
        String[] words = {"HOLD (1 .. 99)", "SNOW of SIDE 0 (0 .. 999)", "SNOW of SIDE 1 (0 .. 999)",
            "SNOW on the PATH (0 .. 999)", "the HOUSE below SIDE 0 (0 .. 6)", "the HOUSE below SIDE 1 (0 .. 6)",
            "HAY (0 .. 30)"};
        for (int k = 0; k < words.length; k++) {
            int what = k;
            E.promise(10, words[k], t -> {
                SnowForSummer x = Checks.town("5,00;6,00");
                int was = x.of(1, what);
                Edges.idle(t, "too little", x, -1, () -> x.set(1, what, least[what] - 1));
                Edges.idle(t, "too much", x, -1, () -> x.set(1, what, most[what] + 1));
                t.due("the least: what it was", x.set(1, what, least[what]), was);
                t.due("is the least", x.of(1, what), least[what]);
                t.due("the most: what it was", x.set(1, what, most[what]), least[what]);
                t.due("is the most", x.of(1, what), most[what]);
                t.due("the other HOUSE", x.of(0, what), what == 0 ? 5 : 0);
                t.due("nothing to undo", x.count(6), 0);
            });
        }
        E.promise(10, "Refused: others", t -> {
            SnowForSummer x = Checks.town("5,00;6,00");
            for (int wild : Edges.WILD) {
                Edges.idle(t, "HOUSE " + wild, x, -1, () -> x.set(wild, 0, 5));
                Edges.idle(t, "what " + wild, x, -1, () -> x.set(0, wild, 5));
                Edges.idle(t, "v " + wild, x, -1, () -> x.set(0, 1, wild));
            }
            Edges.idle(t, "HOUSE 2", x, -1, () -> x.set(2, 0, 5));
            Edges.idle(t, "what 7", x, -1, () -> x.set(0, 7, 5));
            Edges.idle(t, "what 8", x, -1, () -> x.set(0, 8, 5));
        });
    }

    private static void sheets(Checks t, int kind, int... entriesAndInches) {
        SnowForSummer x = Checks.town("5,00");
        for (int i = 0; i < entriesAndInches.length; i += 2) {
            int f = entriesAndInches[i];
            t.due("sheet of " + f, x.sheet(kind, 1, f, 0), entriesAndInches[i + 1]);
            t.due("SIDE 0 of " + f, x.of(0, 1), entriesAndInches[i + 1]);
        }
    }

    private static void sheetKinds() {
        E.promise(11, "bytes: the lowest bits, with their sign; put to 0 .. 999", t -> {
            sheets(t, 0, 0, 0, 127, 127, 128, 0, 255, 0, 256, 0, 257, 1, 383, 127, -1, 0, -255, 1, -129, 127,
                Integer.MAX_VALUE, 0, Integer.MIN_VALUE, 0);
        });
        E.promise(11, "shorts: the lowest bits, with their sign; put to 0 .. 999", t -> {
            sheets(t, 1, 998, 998, 999, 999, 1000, 999, 32767, 999, 32768, 0, 65535, 0, 65536, 0, 65541, 5, -1, 0, -65535, 1,
                Integer.MAX_VALUE, 0, Integer.MIN_VALUE, 0);
        });
        E.promise(11, "ints put to 0 .. 999", t -> {
            sheets(t, 2, 0, 0, 998, 998, 999, 999, 1000, 999, 65541, 999, -1, 0, Integer.MAX_VALUE, 999, Integer.MIN_VALUE, 0);
        });
        E.promise(11, "n entries f, f + step, ..", t -> {
            SnowForSummer x = Checks.town("5,00;5,00");
            t.due("going down below 0", x.sheet(2, 4, 20, -9), 20 + 11 + 2);
            t.due("the fourth", x.of(1, 2), 0);
            t.due("bytes going round", x.sheet(0, 4, 120, 5), 120 + 125);
            t.due("ints going round", x.sheet(2, 2, Integer.MAX_VALUE, 1), 999);
            t.due("and round again", x.sheet(2, 4, 7, 1 << 30), 7 + 999);
        });
        E.promise(11, "those behind it have 0: the sum of all", t -> {
            SnowForSummer x = Checks.town("5,00;5,00");
            x.sheet(2, 4, 9, 0);
            t.due("two entries", x.sheet(2, 2, 3, 1), 7);
            t.due("SIDE 2", x.of(1, 1), 0);
            t.due("SIDE 3", x.of(1, 2), 0);
            t.due("no entries", x.sheet(2, 0, 3, 1), 0);
            t.due("nothing on roofs", x.count(2), 0);
        });
        E.promise(11, "SNOW of SIDES 0, 1, ..: no more than are there", t -> {
            SnowForSummer x = Checks.town("5,00");
            x.set(0, 3, 8);
            t.due("14 entries for two SIDES", x.sheet(2, 14, 3, 1), 3 + 4);
            t.due("on roofs", x.count(2), 7);
            t.due("PATHS stay", x.of(0, 3), 8);
            Checks.put(x, "5,00").town();
            t.due("nothing on roofs that come later", x.count(2), 7);
            SnowForSummer y = Checks.town("5,00;5,00;5,00;5,00;5,00;5,00;5,00");
            t.due("14 entries for 14 SIDES", y.sheet(2, 14, 1, 1), 105);
            t.due("the last", y.of(6, 2), 14);
        });
    }

    private static void sheetRefused() {
        E.promise(11, "-2: n below 0 (of kinds 0 .. 2; nothing changes)", t -> {
            SnowForSummer x = Checks.town("5,00");
            x.sheet(2, 2, 3, 1);
            for (int kind = 0; kind <= 2; kind++) {
                int k = kind;
                Edges.idle(t, "kind " + kind, x, -2, () -> x.sheet(k, -1, 9, 0));
                Edges.idle(t, "kind " + kind + ", the least", x, -2, () -> x.sheet(k, Integer.MIN_VALUE, 9, 0));
            }
        });
        E.promise(11, "-3: missing (all 0)", t -> {
            for (int n : new int[] {0, 14, -1, Integer.MIN_VALUE}) {
                SnowForSummer x = Checks.town("5,00");
                x.sheet(2, 2, 3, 1);
                x.set(0, 3, 6);
                t.due("n " + n, x.sheet(3, n, 9, 9), -3);
                t.due("all 0", x.count(2), 0);
                t.due("PATHS stay", x.count(3), 6);
            }
        });
        E.promise(11, "NONE: another kind, n above 14 (these first)", t -> {
            SnowForSummer x = Checks.town("5,00");
            x.sheet(2, 2, 3, 1);
            for (int kind : new int[] {-1, 4, Integer.MIN_VALUE, Integer.MAX_VALUE}) {
                Edges.idle(t, "kind " + kind, x, -1, () -> x.sheet(kind, 1, 9, 0));
                Edges.idle(t, "kind " + kind + ", n below 0", x, -1, () -> x.sheet(kind, -1, 9, 0));
            }
            for (int kind = 0; kind <= 3; kind++) {
                int k = kind;
                Edges.idle(t, "n 15 of kind " + kind, x, -1, () -> x.sheet(k, 15, 9, 0));
                Edges.idle(t, "the most of kind " + kind, x, -1, () -> x.sheet(k, Integer.MAX_VALUE, 9, 0));
            }
        });
    }

    private static void above() {
        E.promise(12, "SIDES of other HOUSES' roofs", t -> {
            SnowForSummer x = Checks.town("5,00;5,10;5,66");
            t.due("not its own, above 0", x.above(0), 8);
            t.due("not its own, above 1", x.above(1), 0);
            Checks.put(x, "5,00;5,00;5,00;5,66").town();
            t.due("its own two are not told", x.above(6), 16 + 32);
            x.set(0, 5, 6);
            t.due("another one's is", x.above(6), 2 + 16 + 32);
            x.set(0, 4, 6);
            t.due("SIDE 0, too", x.above(6), 3 + 16 + 32);
        });
        E.promise(12, "the SIDE of them with the most (of equal ones the first)", t -> {
            SnowForSummer x = Checks.town("5,00;5,00;5,00");
            x.sheet(2, 6, 5, 0);
            x.above(0);
            t.row("equal ones", x, 20, 2);
            x.set(2, 1, 6);
            x.above(0);
            t.row("one has more", x, 21, 4);
            x.set(0, 1, 99);
            x.above(0);
            t.row("its own does not count", x, 21, 4);
        });
        E.promise(12, "NONE: no SNOW lies there; one inch does", t -> {
            SnowForSummer x = Checks.town("5,00;5,00");
            x.set(0, 1, 9);
            x.set(1, 3, 9);
            t.due("above(0)", x.above(0), 12);
            t.row("above(0)", x, 0, -1);
            t.due("above(1): none lies above", x.above(1), 0);
            t.row("above(1)", x, 0, -1);
            x.set(1, 2, 1);
            x.above(0);
            t.row("one inch", x, 1, 3);
        });
        E.promise(12, "NONE: none such", t -> {
            SnowForSummer x = Checks.town("5,22;5,22");
            x.above(0);
            for (int house : new int[] {2, 6, 7, -1, Integer.MIN_VALUE, Integer.MAX_VALUE}) {
                Edges.idle(t, "above(" + house + ")", x, -1, () -> x.above(house));
            }
        });
    }

    private static void debt() {
        E.promise(13, "NONE: none such", t -> {
            SnowForSummer x = Checks.debts(2, 0, 1, 5);
            for (int house : new int[] {2, 6, 7, -1, Integer.MIN_VALUE, Integer.MAX_VALUE}) {
                Edges.idle(t, "debt(" + house + ", 0)", x, -1, () -> x.debt(house, 0));
                Edges.idle(t, "debt(0, " + house + ")", x, -1, () -> x.debt(0, house));
            }
            t.due("none owed", x.debt(1, 0), 0);
        });
        E.promise(13, "like ones", t -> {
            SnowForSummer x = Checks.debts(2, 0, 1, 5);
            t.due("debt(0, 0)", x.debt(0, 0), -1);
            t.due("debt(1, 1)", x.debt(1, 1), -1);
        });
    }
}
