import java.util.ArrayList;
import java.util.List;
import java.util.NoSuchElementException;
import java.util.Random;

/**
 * Long random runs of calls, on the class and on the model beside it: each answer and each ROW is compared.
 * An argument tells the first run's number, for other runs than those of .ci/run.
 */
public final class ModelRuns {
    private static final int RUNS = 400;
    private static final int CALLS = 300;
    /** What NoSuchElementException counts as among answers. */
    private static final int THROWN = -777777;

    private final Random random;
    private final SnowForSummer x = new SnowForSummer();
    private final Model m = new Model();
    private final List<String> told = new ArrayList<>();
    private boolean wrong;

    private interface Call {
        int answer();
    }

    private ModelRuns(long seed) {
        random = new Random(seed);
    }

    public static void main(String[] args) {
        int first = args.length == 0 ? 0 : Integer.parseInt(args[0]);
        for (int run = first; run < first + RUNS; run++) {
            ModelRuns one = new ModelRuns(run);
            one.begin(run);
            for (int i = 0; i < CALLS && !one.wrong; i++) {
                one.step();
            }
            if (one.wrong) {
                System.out.println("run " + run + ":");
                one.told.forEach(System.out::println);
                System.exit(1);
            }
        }
        System.out.println(RUNS * CALLS + " calls answered as the model does");
    }

    /** Most runs begin with a town in a winter, so that calls find something. */
    private void begin(int run) {
        if (run % 10 != 0) {
            text(goodTown(1 + pick(7)));
            ask("town()", x::town, m::town);
            text(goodWeather());
            ask("weather()", x::weather, m::weather);
            if (pick(3) > 0) {
                text(goodRule());
                ask("rule()", x::rule, m::rule);
            }
        }
    }

    private static int caught(Call call) {
        try {
            return call.answer();
        } catch (NoSuchElementException e) {
            return THROWN;
        }
    }

    private void ask(String what, Call ofClass, Call ofModel) {
        int got = caught(ofClass);
        int due = caught(ofModel);
        told.add(what + " -> " + got);
        if (got != due) {
            told.add("  due is " + due);
            wrong = true;
        }
        compareRows();
        compareCounts();
    }

    private void compareRows() {
        for (int i = 0; i < 9; i++) {
            int k = i;
            int got = caught(() -> x.row(k));
            int due = caught(() -> m.row(k));
            if (got != due) {
                told.add("  row(" + i + ") " + got + ", due is " + due);
                wrong = true;
            }
        }
    }

    private void compareCounts() {
        for (int what = 0; what <= 9; what++) {
            if (x.count(what) != m.count(what)) {
                told.add("  count(" + what + ") " + x.count(what) + ", due is " + m.count(what));
                wrong = true;
            }
        }
        for (int h = 0; h < x.count(0); h++) {
            for (int what = 0; what <= 8; what++) {
                if (x.of(h, what) != m.of(h, what)) {
                    told.add("  of(" + h + ", " + what + ") " + x.of(h, what) + ", due is " + m.of(h, what));
                    wrong = true;
                }
            }
            for (int to = 0; to < x.count(0); to++) {
                if (x.debt(h, to) != m.debt(h, to)) {
                    told.add("  debt(" + h + ", " + to + ") " + x.debt(h, to) + ", due is " + m.debt(h, to));
                    wrong = true;
                }
            }
        }
    }

    // ---- what is drawn

    private int pick(int n) {
        return random.nextInt(n);
    }

    /** Mostly within, sometimes at the edge or beyond it. */
    private int within(int least, int most) {
        switch (pick(16)) {
            case 0:
                return least - 1;
            case 1:
                return most + 1;
            case 2:
                return least;
            case 3:
                return most;
            case 4:
                return pick(40) == 0 ? random.nextInt() : least;
            default:
                return least + pick(most - least + 1);
        }
    }

    private int house() {
        return pick(12) == 0 ? within(0, 6) : pick(Math.max(1, m.count(0)));
    }

    private int side() {
        return 2 * house() + pick(2);
    }

    private int days() {
        return pick(3) == 0 ? within(0, 60) : within(0, 12);
    }

    private void text(String text) {
        ask("end(0)", () -> x.end(0) ? 1 : 0, () -> m.end(0) ? 1 : 0);
        for (int i = 0; i < text.length(); i += 4) {
            int v = 0;
            for (int k = i; k < i + 4; k++) {
                v = v << 8 | (k < text.length() ? text.charAt(k) & 255 : 0);
            }
            int w = v;
            ask("sign " + text.substring(i, Math.min(i + 4, text.length())), () -> x.sign(w), () -> m.sign(w));
        }
        int n = Math.min(text.length(), m.count(9));
        ask("end(" + n + ")", () -> x.end(n) ? 1 : 0, () -> m.end(n) ? 1 : 0);
    }

    private String marred(String text, String signs) {
        if (pick(3) > 0) {
            return text;
        }
        StringBuilder b = new StringBuilder(text);
        int at = pick(b.length() + 1);
        switch (pick(4)) {
            case 0:
                b.setLength(at);
                break;
            case 1:
                b.insert(at, signs.charAt(pick(signs.length())));
                break;
            case 2:
                if (at < b.length()) {
                    b.setCharAt(at, signs.charAt(pick(signs.length())));
                }
                break;
            default:
                b.append(text).append(signs.charAt(pick(signs.length()))).append(text);
                b.setLength(Math.min(80, b.length()));
        }
        return b.toString();
    }

    private String goodTown(int lines) {
        StringBuilder b = new StringBuilder();
        for (int i = 0; i < lines; i++) {
            b.append(i == 0 ? "" : ";").append(pick(4) == 0 ? 1 + pick(99) : 1 + pick(12)).append(',');
            b.append(pick(pick(3) == 0 ? 7 : lines)).append(pick(pick(3) == 0 ? 7 : lines));
            if (pick(2) == 0) {
                b.append('*').append(pick(31));
            }
        }
        return b.toString();
    }

    private String goodWeather() {
        StringBuilder b = new StringBuilder();
        int n = pick(4) == 0 ? pick(41) : 1 + pick(8);
        for (int i = 0; i < n; i++) {
            b.append("0123456789abcdefghi0123456789".charAt(pick(29)));
        }
        return b.toString();
    }

    private String goodRule() {
        String rule = expression(pick(4), 0);
        return rule.length() > 40 && pick(8) > 0 ? goodRule() : rule.substring(0, Math.min(80, rule.length()));
    }

    private String expression(int size, int depth) {
        if (size == 0) {
            switch (pick(5)) {
                case 0:
                    return String.valueOf(pick(12));
                case 1:
                    return String.valueOf(pick(1000));
                default:
                    return String.valueOf("dptonxhbdd".charAt(pick(10)));
            }
        }
        switch (pick(8)) {
            case 0:
                return "-" + expression(size - 1, depth);
            case 1:
            case 2:
                return "(" + expression(size - 1, depth + 1) + ")";
            case 3:
                return expression(size - 1, depth) + "<>=".charAt(pick(3)) + expression(size - 1, depth);
            default:
                return expression(size - 1, depth) + "+-*/".charAt(pick(4)) + expression(size - 1, depth);
        }
    }

    private String goodNight() {
        StringBuilder b = new StringBuilder();
        int acts = pick(6) == 0 ? pick(12) : 1 + pick(4);
        for (int i = 0; i < acts; i++) {
            int h = Math.min(9, Math.max(0, house()));
            b.append(i == 0 ? "" : ";");
            switch (pick(4)) {
                case 0:
                    b.append('s').append(h).append(pick(2)).append('*').append(pick(pick(3) == 0 ? 100 : 5));
                    break;
                case 1:
                    b.append('c').append(h).append('*').append(pick(pick(3) == 0 ? 100 : 5));
                    break;
                case 2:
                    b.append('l').append(h).append(Math.min(9, Math.max(0, house()))).append(pick(2));
                    break;
                default:
                    b.append('d').append(pick(2) == 0 ? "" : String.valueOf(1 + pick(9)));
            }
        }
        return b.substring(0, Math.min(80, b.length()));
    }

    // ---- calls

    private void step() {
        switch (pick(6)) {
            case 0:
                askTown();
                break;
            case 1:
                askDays();
                break;
            case 2:
                askDebts();
                break;
            case 3:
                askAhead();
                break;
            case 4:
                askHands();
                break;
            default:
                askKept();
        }
    }

    private void askTown() {
        int a = house();
        int b = pick(12) == 0 ? within(0, 8) : pick(7);
        int c = house();
        switch (pick(12)) {
            case 0:
                text(marred(goodTown(1 + pick(4)), "0123456789,;*x"));
                ask("town()", x::town, m::town);
                break;
            case 1:
                text(marred(goodWeather(), "09aij"));
                ask("weather()", x::weather, m::weather);
                break;
            case 2:
                text(marred(goodRule(), "dptonxhb0123456789()+-*/<>=z"));
                ask("rule()", x::rule, m::rule);
                break;
            case 3: {
                int seed = random.nextInt();
                int n = within(1, 40);
                ask("winter(" + seed + ", " + n + ")", () -> x.winter(seed, n), () -> m.winter(seed, n));
                break;
            }
            case 4: {
                int day = pick(2) == 0 ? within(0, 9999) : pick(100);
                ask("falls(" + day + ")", () -> x.falls(day), () -> m.falls(day));
                break;
            }
            case 5:
                ask("of(" + a + ", " + b + ")", () -> x.of(a, b), () -> m.of(a, b));
                break;
            case 6:
            case 7: {
                int[] most = {99, 999, 999, 999, 6, 6, 30};
                int v = pick(3) == 0 ? within(0, b >= 0 && b < 7 ? most[b] : 9) : pick(12);
                ask("set(" + a + ", " + b + ", " + v + ")", () -> x.set(a, b, v), () -> m.set(a, b, v));
                break;
            }
            case 8: {
                int kind = within(0, 3);
                int n = within(0, 14);
                int f = pick(2) == 0 ? random.nextInt() : pick(20);
                int step = pick(2) == 0 ? random.nextInt() : pick(9) - 4;
                ask("sheet(" + kind + ", " + n + ", " + f + ", " + step + ")", () -> x.sheet(kind, n, f, step),
                    () -> m.sheet(kind, n, f, step));
                break;
            }
            case 9:
                ask("above(" + a + ")", () -> x.above(a), () -> m.above(a));
                break;
            case 10: {
                int v = random.nextInt();
                ask("sign(" + v + ")", () -> x.sign(v), () -> m.sign(v));
                break;
            }
            default:
                ask("debt(" + a + ", " + c + ")", () -> x.debt(a, c), () -> m.debt(a, c));
        }
    }

    private void askDays() {
        int h = house();
        int s = side();
        int n = pick(2) == 0 ? within(1, 99) : 1 + pick(6);
        int to = house();
        int d = pick(3) == 0 ? within(0, 60) : pick(6);
        switch (pick(12)) {
            case 0:
            case 1:
                ask("day()", x::day, () -> m.days(1));
                break;
            case 2:
                ask("days(" + d + ")", () -> x.days(d), () -> m.days(d));
                break;
            case 3:
                ask("sweep(" + s + ", " + n + ")", () -> x.sweep(s, n), () -> m.sweep(s, n));
                break;
            case 4:
                ask("clear(" + h + ", " + n + ")", () -> x.clear(h, n), () -> m.clear(h, n));
                break;
            case 5: {
                int from = within(0, 1);
                ask("wind(" + from + ", " + n + ")", () -> x.wind(from, n), () -> m.wind(from, n));
                break;
            }
            case 6:
            case 7:
                ask("loose(" + h + ", " + s + ")", () -> x.loose(h, s), () -> m.loose(h, s));
                break;
            case 8:
                ask("work(" + h + ", " + to + ", " + n + ")", () -> x.work(h, to, n), () -> m.work(h, to, n));
                break;
            case 9:
            case 10:
                text(marred(goodNight(), "scld0123456789*;x"));
                ask("night()", x::night, m::night);
                break;
            default:
                ask("undo()", x::undo, m::undo);
        }
    }

    private void askDebts() {
        int h = house();
        int n = within(0, 60);
        switch (pick(11)) {
            case 0:
                ask("ring()", x::ring, m::ring);
                break;
            case 1:
                ask("cancel()", x::cancel, m::cancel);
                break;
            case 2:
                ask("rings()", x::rings, m::rings);
                break;
            case 3:
                ask("net(" + h + ")", () -> x.net(h), () -> m.net(h));
                break;
            case 4:
                ask("least()", x::least, m::least);
                break;
            case 5:
                ask("even()", x::even, m::even);
                break;
            case 6:
                ask("debtor()", x::debtor, m::debtor);
                break;
            case 7:
                ask("june()", x::june, m::june);
                break;
            case 8:
                ask("hay(" + n + ")", () -> x.hay(n), () -> m.hay(n));
                break;
            case 9:
                ask("works(" + h + ", " + n + ")", () -> x.works(h, n), () -> m.works(h, n));
                break;
            default:
                ask("summer()", x::summer, m::summer);
        }
    }

    private void askAhead() {
        int h = house();
        int s = side();
        int n = days();
        int v = pick(2) == 0 ? within(0, 999) : pick(60);
        switch (pick(10)) {
            case 0:
                ask("ahead(" + n + ")", () -> x.ahead(n), () -> m.ahead(n));
                break;
            case 1:
                ask("slides(" + s + ")", () -> x.slides(s), () -> m.slides(s));
                break;
            case 2:
                ask("later(" + s + ", " + n + ")", () -> x.later(s, n), () -> m.later(s, n));
                break;
            case 3:
                ask("deepest(" + h + ", " + n + ")", () -> x.deepest(h, n), () -> m.deepest(h, n));
                break;
            case 4:
                ask("lord(" + n + ")", () -> x.lord(n), () -> m.lord(n));
                break;
            case 5:
                ask("worst(" + n + ")", () -> x.worst(n), () -> m.worst(n));
                break;
            case 6:
                ask("melt()", x::melt, m::melt);
                break;
            case 7:
                ask("lazy(" + n + ")", () -> x.lazy(n), () -> m.lazy(n));
                break;
            case 8:
                ask("dig(" + h + ", " + v + ", " + n + ")", () -> x.dig(h, v, n), () -> m.dig(h, v, n));
                break;
            default:
                ask("bare(" + h + ", " + n + ")", () -> x.bare(h, n), () -> m.bare(h, n));
        }
    }

    private void askHands() {
        int h = house();
        int s = side();
        int n = days();
        int v = within(1, 99);
        int nights = pick(8) == 0 ? within(1, 3) : 1 + pick(2);
        int rounds = within(0, 20);
        switch (pick(8)) {
            case 0:
                ask("best(" + nights + ", " + v + ")", () -> x.best(nights, v), () -> m.best(nights, v));
                break;
            case 1:
                ask("own(" + h + ", " + nights + ", " + v + ")", () -> x.own(h, nights, v), () -> m.own(h, nights, v));
                break;
            case 2:
                ask("better(" + s + ", " + n + ")", () -> x.better(s, n), () -> m.better(s, n));
                break;
            case 3:
                ask("rests(" + n + ", " + rounds + ")", () -> x.rests(n, rounds), () -> m.rests(n, rounds));
                break;
            case 4:
                ask("rough(" + v + ", " + n + ")", () -> x.rough(v, n), () -> m.rough(v, n));
                break;
            case 5:
                ask("turned(" + n + ")", () -> x.turned(n), () -> m.turned(n));
                break;
            case 6:
                ask("needs(" + h + ", " + n + ")", () -> x.needs(h, n), () -> m.needs(h, n));
                break;
            default:
                ask("premium(" + n + ")", () -> x.premium(n), () -> m.premium(n));
        }
    }

    private void askKept() {
        int h = house();
        int day = pick(3) == 0 ? within(0, 999) : pick(5);
        int bits = pick(4) == 0 ? random.nextInt() : pick(32);
        int i = within(0, 1);
        switch (pick(12)) {
            case 0:
            case 1:
            case 2:
            case 3:
                ask("track(" + h + ", " + day + ")", () -> x.track(h, day), () -> m.track(h, day));
                break;
            case 4:
                if (pick(5) == 0) {
                    ask("thaw()", x::thaw, m::thaw);
                }
                break;
            case 5:
            case 6:
                ask("suspects(" + bits + ")", () -> x.suspects(bits), () -> m.suspects(bits));
                break;
            case 7:
            case 8:
                ask("gang(" + bits + ")", () -> x.gang(bits), () -> m.gang(bits));
                break;
            case 9:
                ask("keep(" + i + ")", () -> x.keep(i) ? 1 : 0, () -> m.keep(i) ? 1 : 0);
                break;
            case 10:
                ask("again(" + i + ")", () -> x.again(i) ? 1 : 0, () -> m.again(i) ? 1 : 0);
                break;
            default:
                ask("count(" + day + ")", () -> x.count(day), () -> m.count(day));
        }
    }
}
