import java.util.NoSuchElementException;

/** Counts answers that are not as due; a test ends with finish(), which exits with 1 if there was one. */
final class Checks {
    interface Call {
        int answer();
    }

    private int asked;
    private int wrong;
    private String heading = "";

    /** What stands ahead of each answer that is not as due. */
    void head(String words) {
        heading = words;
    }

    int asked() {
        return asked;
    }

    void due(String what, long got, long want) {
        asked++;
        if (got != want) {
            wrong++;
            System.out.println(heading + what + " answered " + got + ", due is " + want);
        }
    }

    void due(String what, boolean got, boolean want) {
        due(what, got ? 1 : 0, want ? 1 : 0);
    }

    void noSuch(String what, Call call) {
        asked++;
        try {
            int got = call.answer();
            wrong++;
            System.out.println(heading + what + " answered " + got + ", due is NoSuchElementException");
        } catch (NoSuchElementException e) {
            // as due
        }
    }

    /** The ROW is these numbers, no more and no fewer. */
    void row(String what, SnowForSummer x, int... want) {
        due(what + ": numbers of the ROW", x.count(8), want.length);
        for (int i = 0; i < Math.min(want.length, x.count(8)); i++) {
            due(what + ": row(" + i + ")", x.row(i), want[i]);
        }
    }

    void finish() {
        System.out.println(wrong == 0 ? asked + " answers are as due" : wrong + " of " + asked + " answers are not as due");
        if (wrong != 0) {
            System.exit(1);
        }
    }

    static SnowForSummer put(SnowForSummer x, String text) {
        x.end(0);
        for (int i = 0; i < text.length(); i += 4) {
            int v = 0;
            for (int k = i; k < i + 4; k++) {
                v = v << 8 | (k < text.length() ? text.charAt(k) & 255 : 0);
            }
            x.sign(v);
        }
        x.end(text.length());
        return x;
    }

    static SnowForSummer town(String lines) {
        SnowForSummer x = new SnowForSummer();
        put(x, lines).town();
        return x;
    }

    static SnowForSummer town(String lines, String weather) {
        SnowForSummer x = town(lines);
        put(x, weather).weather();
        return x;
    }

    static SnowForSummer town(String lines, String weather, String rule) {
        SnowForSummer x = town(lines, weather);
        put(x, rule).rule();
        return x;
    }

    /** A town without weather in which the first house owes the second one so many days, for each three numbers. */
    static SnowForSummer debts(int houses, int... debts) {
        SnowForSummer x = new SnowForSummer();
        for (int i = 0; i < houses; i++) {
            put(x, "99,00").town();
        }
        for (int i = 0; i + 2 < debts.length; i += 3) {
            owe(x, debts[i], debts[i + 1], debts[i + 2]);
        }
        put(x, "").rule();
        return x;
    }

    static void owe(SnowForSummer x, int from, int to, int days) {
        for (int left = days; left > 0; left -= 99) {
            put(x, String.valueOf(Math.min(99, left))).rule();
            int path = x.of(to, 3);
            int below = x.set(from, 4, to);
            int snow = x.set(from, 1, 1);
            x.loose(from, 2 * from);
            x.set(from, 4, below);
            x.set(from, 1, snow);
            x.set(to, 3, path);
        }
    }
}
