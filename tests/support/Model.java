import java.util.ArrayDeque;
import java.util.ArrayList;
import java.util.Deque;
import java.util.List;
import java.util.NoSuchElementException;
import java.util.regex.Matcher;
import java.util.regex.Pattern;

/**
 * The document once more, written as plainly as can be and with other means than the class (patterns, trying all):
 * what the two answer is compared in ModelRuns.
 */
final class Model {
    static final class House {
        int hold;
        int[] below = new int[2];
        int hay;
    }

    /** SNOW, DEBTS, NOW. */
    static final class Winter {
        int[][] snow = new int[7][2];
        int[] path = new int[7];
        int[][] debt = new int[7][7];
        int now;
        int houses;

        Winter copy() {
            Winter w = new Winter();
            for (int i = 0; i < 7; i++) {
                w.snow[i] = snow[i].clone();
                w.debt[i] = debt[i].clone();
            }
            w.path = path.clone();
            w.now = now;
            w.houses = houses;
            return w;
        }
    }

    /** What came of days: kept beside the winter they went over. */
    static final class Tale {
        int owed;
        int[] by = new int[7];
        List<String> slides = new ArrayList<>();
        int[] struck = new int[7];
    }

    String text = "";
    List<House> town = new ArrayList<>();
    String weather = "";
    /** The same, of one day at least: Java 17's compiler may divide by its length ahead of a test for 0, and crash. */
    String cycle = "0";
    String rule = "";
    Winter w = new Winter();
    Deque<Winter> undo = new ArrayDeque<>();
    Winter[] kept = new Winter[2];
    List<int[]> tracks = new ArrayList<>();
    int[] row = {};

    private int n() {
        return town.size();
    }

    private boolean house(int h) {
        return 0 <= h && h < n();
    }

    private boolean side(int s) {
        return 0 <= s && s <= 13 && s / 2 < n();
    }

    private static boolean in(int v, int a, int b) {
        return a <= v && v <= b;
    }

    private void push(Winter before) {
        undo.addLast(before);
        if (undo.size() > 12) {
            undo.removeFirst();
        }
    }

    // ---- texts

    int sign(int v) {
        if (text.length() + 4 > 80) {
            return -1;
        }
        text = text + (char) (v >>> 24) + (char) (v >>> 16 & 255) + (char) (v >>> 8 & 255) + (char) (v & 255);
        return text.length();
    }

    boolean end(int k) {
        if (k < 0 || k > text.length()) {
            return false;
        }
        text = text.substring(0, k);
        return true;
    }

    /** NONE if the text is good, else the place of the sign that can't stand there. */
    private static int fault(String text, int most, Pattern good) {
        String read = text.length() > most ? text.substring(0, most) : text;
        for (int p = 0; p < read.length(); p++) {
            Matcher m = good.matcher(read.substring(0, p + 1));
            if (!m.matches() && !m.hitEnd()) {
                return p;
            }
        }
        if (text.length() > most) {
            return most;
        }
        return good.matcher(read).matches() ? -1 : read.length();
    }

    private static final Pattern TOWN = Pattern.compile(list("[0-9]{1,2},[0-6][0-6](\\*[0-9]{1,2})?"));
    private static final Pattern WEATHER = Pattern.compile("[0-9a-i]*");
    private static final Pattern NIGHT =
        Pattern.compile(list("(s[0-9][01]\\*[0-9]{1,2}|c[0-9]\\*[0-9]{1,2}|l[0-9][0-9][01]|d[1-9]?)"));
    private static final Pattern RULE = Pattern.compile(expression(4));

    private static String list(String one) {
        return one + "(;" + one + ")*";
    }

    private static String expression(int within) {
        String thing = "([0-9]{1,3}|[dptonxhb]" + (within == 0 ? "" : "|\\(" + expression(within - 1) + "\\)") + ")";
        String factor = "-*" + thing;
        String product = factor + "([*/]" + factor + ")*";
        String sum = product + "([-+]" + product + ")*";
        return sum + "([<>=]" + sum + ")?";
    }

    private static final Pattern LINE = Pattern.compile("([0-9]*),?([0-9]?)([0-9]?)(\\*?)([0-9]*)");

    int town() {
        String t = text;
        text = "";
        if (t.isEmpty()) {
            return 0;
        }
        int fault = fault(t, 76, TOWN);
        String good = fault < 0 ? t : t.substring(0, fault);
        List<House> more = new ArrayList<>();
        int at = 0;
        for (String line : good.split(";", -1)) {
            if (n() + more.size() == 7) {
                return -1 - at;
            }
            Matcher m = LINE.matcher(line);
            if (!m.matches()) {
                throw new IllegalStateException("a line " + line);
            }
            if (!m.group(1).isEmpty() && Integer.parseInt(m.group(1)) == 0) {
                return -1 - (at + m.end(1) - 1);
            }
            if (!m.group(5).isEmpty() && Integer.parseInt(m.group(5)) > 30) {
                return -1 - (at + m.end(5) - 1);
            }
            if (fault < 0) {
                House h = new House();
                h.hold = Integer.parseInt(m.group(1));
                h.below[0] = Integer.parseInt(m.group(2));
                h.below[1] = Integer.parseInt(m.group(3));
                h.hay = m.group(5).isEmpty() ? 0 : Integer.parseInt(m.group(5));
                more.add(h);
            } else {
                more.add(null);
            }
            at += line.length() + 1;
        }
        if (fault >= 0) {
            return -1 - fault;
        }
        town.addAll(more);
        w.houses = n();
        undo.clear();
        return more.size();
    }

    int weather() {
        String t = text;
        text = "";
        int fault = fault(t, 40, WEATHER);
        if (fault >= 0) {
            return -1 - fault;
        }
        weather = t;
        cycle = t.isEmpty() ? "0" : t;
        return t.length();
    }

    int rule() {
        String t = text;
        text = "";
        if (t.isEmpty()) {
            rule = "";
            return 0;
        }
        int fault = fault(t, 40, RULE);
        if (fault >= 0) {
            return -1 - fault;
        }
        rule = t;
        return 0;
    }

    int winter(int seed, int days) {
        if (!in(days, 1, 40)) {
            return -1;
        }
        StringBuilder b = new StringBuilder();
        int r = seed;
        int snowy = 0;
        for (int i = 0; i < days; i++) {
            r = r * 1103515245 + 12345;
            long drawn = (r & 0xFFFFFFFFL) / 65536 % 16;
            b.append("0123456789abcdef".charAt((int) drawn));
            snowy += in((int) drawn, 1, 9) ? 1 : 0;
        }
        // The letters of the digits 10 to 15 are a to f, as it happens: thaws of 1 to 6.
        weather = b.toString();
        cycle = weather;
        return snowy;
    }

    private int falling(int day) {
        char c = cycle.charAt(day % cycle.length());
        return Character.isDigit(c) ? c - '0' : -(c - 'a' + 1);
    }

    int falls(int day) {
        return in(day, 0, 9999) ? falling(day) : -10;
    }

    // ---- the rule, split at the sign that binds least

    private static int reckon(String e, String names, int[] values) {
        int at = splitAt(e, "<>=");
        if (at < 0) {
            at = splitAt(e, "+-");
        }
        if (at < 0) {
            at = splitAt(e, "*/");
        }
        if (at >= 0) {
            int a = reckon(e.substring(0, at), names, values);
            int b = reckon(e.substring(at + 1), names, values);
            switch (e.charAt(at)) {
                case '<': return a < b ? 1 : 0;
                case '>': return a > b ? 1 : 0;
                case '=': return a == b ? 1 : 0;
                case '+': return a + b;
                case '-': return a - b;
                case '*': return a * b;
                default: return b == 0 ? 0 : a / b;
            }
        }
        if (e.startsWith("-")) {
            return -reckon(e.substring(1), names, values);
        }
        if (e.startsWith("(")) {
            return reckon(e.substring(1, e.length() - 1), names, values);
        }
        int name = names.indexOf(e.charAt(0));
        return name >= 0 ? values[name] : Integer.parseInt(e);
    }

    /** The last of these signs that stands between two things outside all ( ). */
    private static int splitAt(String e, String signs) {
        int depth = 0;
        for (int i = e.length() - 1; i > 0; i--) {
            char c = e.charAt(i);
            depth += c == ')' ? 1 : c == '(' ? -1 : 0;
            char ahead = e.charAt(i - 1);
            boolean between = Character.isLetterOrDigit(ahead) || ahead == ')';
            if (depth == 0 && between && signs.indexOf(c) >= 0) {
                return i;
            }
        }
        return -1;
    }

    // ---- slides and days

    private int slide(Winter x, Tale tale, int h, int s, int blamed, boolean setOff) {
        int d = x.snow[h][s];
        int b = town.get(h).below[s];
        x.snow[h][s] = 0;
        int days = 0;
        if (house(b)) {
            int p = x.path[b];
            x.path[b] = Math.min(999, p + d);
            if (blamed != b && d >= 1) {
                int[] values = {d, p, Math.max(0, -falling(x.now)), town.get(h).hold, x.now, setOff ? 1 : 0, h, b};
                days = Math.max(0, Math.min(99, rule.isEmpty() ? d : reckon(rule, "dptonxhb", values)));
                x.debt[blamed][b] = Math.min(9999, x.debt[blamed][b] + days);
                tale.owed += days;
                tale.by[blamed] += days;
            }
        }
        return days;
    }

    private void pass(Winter x, Tale tale) {
        int f = falling(x.now);
        for (int h = 0; h < n(); h++) {
            for (int s = 0; s < 2; s++) {
                x.snow[h][s] = Math.min(999, Math.max(0, x.snow[h][s] + f));
            }
            x.path[h] = Math.min(999, Math.max(0, x.path[h] + f));
        }
        for (int h = 0; h < n(); h++) {
            for (int s = 0; s < 2; s++) {
                int holds = town.get(h).hold - (f < 0 ? -f : 0);
                if (x.snow[h][s] > (holds < 0 ? 0 : holds)) {
                    int b = town.get(h).below[s];
                    tale.slides.add(x.now + ":" + (2 * h + s));
                    if (b != h) {
                        tale.struck[b]++;
                    }
                    slide(x, tale, h, s, h, false);
                }
            }
        }
        x.now++;
    }

    private Tale pass(Winter x, int days) {
        Tale tale = new Tale();
        for (int i = 0; i < days; i++) {
            pass(x, tale);
        }
        return tale;
    }

    private Tale foretell(int days) {
        return pass(w.copy(), days);
    }

    private static int sum(int[] cells) {
        int sum = 0;
        for (int c : cells) {
            sum += c;
        }
        return sum;
    }

    private static int owes(Winter x, int h) {
        return sum(x.debt[h]);
    }

    private static int owed(Winter x, int h) {
        int sum = 0;
        for (int[] from : x.debt) {
            sum += from[h];
        }
        return sum;
    }

    private static int all(Winter x) {
        int sum = 0;
        for (int[] from : x.debt) {
            sum += sum(from);
        }
        return sum;
    }

    // ---- the town

    int of(int h, int what) {
        if (!house(h) || !in(what, 0, 8)) {
            throw new NoSuchElementException();
        }
        House t = town.get(h);
        return new int[] {t.hold, w.snow[h][0], w.snow[h][1], w.path[h], t.below[0], t.below[1], t.hay, owes(w, h),
            owed(w, h)}[what];
    }

    int set(int h, int what, int v) {
        int[] least = {1, 0, 0, 0, 0, 0, 0};
        int[] most = {99, 999, 999, 999, 6, 6, 30};
        if (!house(h) || !in(what, 0, 6) || !in(v, least[what], most[what])) {
            return -1;
        }
        int old = of(h, what);
        switch (what) {
            case 0: town.get(h).hold = v; break;
            case 1: w.snow[h][0] = v; break;
            case 2: w.snow[h][1] = v; break;
            case 3: w.path[h] = v; break;
            case 4: town.get(h).below[0] = v; break;
            case 5: town.get(h).below[1] = v; break;
            default: town.get(h).hay = v;
        }
        return old;
    }

    int sheet(int kind, int k, int f, int step) {
        if (!in(kind, 0, 3) || k > 14) {
            return -1;
        }
        if (kind < 3 && k < 0) {
            return -2;
        }
        int[] entries = new int[14];
        for (int i = 0; i < k && kind < 3; i++) {
            int v = f + i * step;
            entries[i] = kind == 0 ? (byte) v : kind == 1 ? (short) v : v;
        }
        int sum = 0;
        for (int i = 0; i < 2 * n(); i++) {
            w.snow[i / 2][i % 2] = Math.max(0, Math.min(999, entries[i]));
            sum += w.snow[i / 2][i % 2];
        }
        return kind == 3 ? -3 : sum;
    }

    int above(int h) {
        if (!house(h)) {
            return -1;
        }
        int bits = 0;
        int inches = 0;
        int most = -1;
        for (int s = 2 * n() - 1; s >= 0; s--) {
            if (s / 2 != h && town.get(s / 2).below[s % 2] == h) {
                int lies = w.snow[s / 2][s % 2];
                bits += 1 << s;
                inches += lies;
                if (lies > 0 && (most < 0 || lies >= w.snow[most / 2][most % 2])) {
                    most = s;
                }
            }
        }
        row = new int[] {inches, most};
        return bits;
    }

    int debt(int a, int b) {
        return house(a) && house(b) && a != b ? w.debt[a][b] : -1;
    }

    // ---- days and hands

    int days(int k) {
        if (!in(k, 0, 60)) {
            return -1;
        }
        Winter before = w.copy();
        Tale tale = pass(w, k);
        row = new int[] {tale.owed, sum(w.path)};
        if (k > 0) {
            push(before);
        }
        return tale.slides.size();
    }

    private int sweepNow(int s, int k) {
        if (!side(s) || !in(k, 1, 99)) {
            return -1;
        }
        if (w.snow[s / 2][s % 2] < k) {
            return -2;
        }
        return move(w, s, k);
    }

    private static int move(Winter x, int s, int k) {
        x.snow[s / 2][s % 2] -= k;
        int there = Math.min(999, x.snow[s / 2][1 - s % 2] + k);
        x.snow[s / 2][1 - s % 2] = there;
        return there;
    }

    int sweep(int s, int k) {
        Winter before = w.copy();
        int a = sweepNow(s, k);
        if (a >= 0) {
            push(before);
        }
        return a;
    }

    private int clearNow(int h, int k) {
        if (!house(h) || !in(k, 1, 99)) {
            return -1;
        }
        if (w.path[h] < k) {
            return -2;
        }
        w.path[h] -= k;
        return w.path[h];
    }

    int clear(int h, int k) {
        Winter before = w.copy();
        int a = clearNow(h, k);
        if (a >= 0) {
            push(before);
        }
        return a;
    }

    int wind(int from, int k) {
        if (!in(from, 0, 1) || !in(k, 1, 99)) {
            return -1;
        }
        push(w.copy());
        int went = 0;
        for (int h = 0; h < n(); h++) {
            int some = Math.min(k, w.snow[h][from]);
            move(w, 2 * h + from, some);
            went += some;
        }
        return went;
    }

    private int looseNow(Tale tale, int by, int s) {
        if (!house(by) || !side(s)) {
            return -1;
        }
        int d = w.snow[s / 2][s % 2];
        if (d == 0) {
            return -2;
        }
        slide(w, tale, s / 2, s % 2, by, true);
        return d;
    }

    int loose(int by, int s) {
        Winter before = w.copy();
        Tale tale = new Tale();
        int a = looseNow(tale, by, s);
        if (a >= 0) {
            push(before);
            row = new int[] {tale.owed};
        }
        return a;
    }

    int work(int a, int b, int k) {
        if (debt(a, b) < 0 || !in(k, 1, 99)) {
            return -1;
        }
        if (w.debt[a][b] < k) {
            return -2;
        }
        push(w.copy());
        return w.debt[a][b] -= k;
    }

    int night() {
        String t = text;
        text = "";
        int fault = t.isEmpty() ? -1 : fault(t, 60, NIGHT);
        if (fault >= 0) {
            return -1 - fault;
        }
        Winter before = w.copy();
        Tale tale = new Tale();
        int done = 0;
        int refused = 0;
        for (String act : t.isEmpty() ? new String[0] : t.split(";")) {
            if (act(act, tale) < 0) {
                refused = 1;
                break;
            }
            done++;
        }
        row = new int[] {refused, tale.owed};
        if (done > 0) {
            push(before);
        }
        return done;
    }

    private int act(String act, Tale tale) {
        int a = act.length() > 1 ? act.charAt(1) - '0' : 1;
        int number = act.indexOf('*') < 0 ? 0 : Integer.parseInt(act.substring(act.indexOf('*') + 1));
        switch (act.charAt(0)) {
            case 's': return sweepNow(2 * a + act.charAt(2) - '0', number);
            case 'c': return clearNow(a, number);
            case 'l': return looseNow(tale, a, 2 * (act.charAt(2) - '0') + act.charAt(3) - '0');
            default:
                for (int i = 0; i < a; i++) {
                    pass(w, tale);
                }
                return 0;
        }
    }

    int undo() {
        if (undo.isEmpty()) {
            return -1;
        }
        w = undo.removeLast();
        return undo.size();
    }

    // ---- debts: all rings are tried

    private List<Integer> shortestRing() {
        for (int length = 2; length <= n(); length++) {
            List<Integer> found = ringFrom(new ArrayList<>(), length);
            if (found != null) {
                return found;
            }
        }
        return null;
    }

    private List<Integer> ringFrom(List<Integer> begun, int length) {
        int last = begun.isEmpty() ? -1 : begun.get(begun.size() - 1);
        if (begun.size() == length) {
            return w.debt[last][begun.get(0)] > 0 ? begun : null;
        }
        for (int h = 0; h < n(); h++) {
            boolean fits = begun.isEmpty() || h > begun.get(0) && !begun.contains(h) && w.debt[last][h] > 0;
            if (fits) {
                List<Integer> more = new ArrayList<>(begun);
                more.add(h);
                List<Integer> found = ringFrom(more, length);
                if (found != null) {
                    return found;
                }
            }
        }
        return null;
    }

    private int leastIn(List<Integer> ring) {
        int least = 99999;
        for (int i = 0; i < ring.size(); i++) {
            least = Math.min(least, w.debt[ring.get(i)][ring.get((i + 1) % ring.size())]);
        }
        return least;
    }

    int ring() {
        List<Integer> ring = shortestRing();
        if (ring == null) {
            return -2;
        }
        row = new int[ring.size() + 1];
        for (int i = 0; i < ring.size(); i++) {
            row[i] = ring.get(i);
        }
        row[ring.size()] = leastIn(ring);
        return ring.size();
    }

    private int clearRing() {
        List<Integer> ring = shortestRing();
        if (ring == null) {
            return -2;
        }
        int least = leastIn(ring);
        for (int i = 0; i < ring.size(); i++) {
            w.debt[ring.get(i)][ring.get((i + 1) % ring.size())] -= least;
        }
        return least * ring.size();
    }

    int cancel() {
        Winter before = w.copy();
        int less = clearRing();
        if (less >= 0) {
            push(before);
        }
        return less;
    }

    int rings() {
        Winter before = w.copy();
        int many = 0;
        for (int less = clearRing(); less >= 0; less = clearRing()) {
            many++;
        }
        row = new int[] {all(before) - all(w)};
        if (many > 0) {
            push(before);
        }
        return many;
    }

    int net(int h) {
        if (!house(h)) {
            throw new NoSuchElementException();
        }
        return owed(w, h) - owes(w, h);
    }

    int least() {
        int behind = 0;
        for (int h = 0; h < n(); h++) {
            behind += net(h) < 0 ? -net(h) : 0;
        }
        row = new int[] {all(w)};
        return behind;
    }

    int even() {
        Winter before = w.copy();
        int[] net = new int[7];
        for (int h = 0; h < n(); h++) {
            net[h] = net(h);
        }
        w.debt = new int[7][7];
        int many = 0;
        for (boolean more = true; more;) {
            more = false;
            for (int i = 0; i < 49 && !more; i++) {
                int a = i / 7;
                int b = i % 7;
                if (net[a] < 0 && net[b] > 0 && w.debt[a][b] == 0) {
                    w.debt[a][b] = Math.min(9999, Math.min(-net[a], net[b]));
                    net[a] += w.debt[a][b];
                    net[b] -= w.debt[a][b];
                    many++;
                    more = true;
                }
            }
        }
        row = new int[] {all(before) - all(w)};
        push(before);
        return many;
    }

    int debtor() {
        int first = -2;
        for (int h = n() - 1; h >= 0; h--) {
            if (owes(w, h) > 0 && (first < 0 || owes(w, h) >= owes(w, first))) {
                first = h;
            }
        }
        if (first >= 0) {
            int many = 0;
            for (int d : w.debt[first]) {
                many += d > 0 ? 1 : 0;
            }
            row = new int[] {owes(w, first), many};
        }
        return first;
    }

    // ---- June: gone through day by day

    int june() {
        int most = 0;
        int first = -1;
        for (int h = 0; h < n(); h++) {
            if (owes(w, h) > most) {
                most = owes(w, h);
                first = h;
            }
        }
        row = new int[] {first};
        return most;
    }

    private int[] worked(int days) {
        int[] at = new int[7];
        for (int h = 0; h < n(); h++) {
            for (int day = 1; day <= days; day++) {
                at[whereOn(h, day)]++;
            }
        }
        return at;
    }

    private int whereOn(int h, int day) {
        int left = day;
        for (int to = 0; to < n(); to++) {
            for (int d = 0; d < w.debt[h][to]; d++) {
                left--;
                if (left == 0) {
                    return to;
                }
            }
        }
        return h;
    }

    int hay(int k) {
        if (!in(k, 0, 60)) {
            return -1;
        }
        int[] at = worked(k);
        int bits = 0;
        int wanting = 0;
        for (int h = 0; h < n(); h++) {
            int want = town.get(h).hay - at[h];
            bits += want <= 0 ? 1 << h : 0;
            wanting += want > 0 ? want : 0;
        }
        row = new int[] {wanting};
        return bits;
    }

    int works(int h, int day) {
        if (!house(h) || !in(day, 1, 60)) {
            return -1;
        }
        int where = whereOn(h, day);
        int more = 60;
        if (where != h) {
            more = 0;
            for (int d = day; whereOn(h, d) == where; d++) {
                more++;
            }
        }
        row = new int[] {more};
        return where;
    }

    int summer() {
        int[] old = row;
        int found = -2;
        for (int k = 60; k >= 0; k--) {
            if (hay(k) == (1 << n()) - 1) {
                found = k;
            }
        }
        row = old;
        return found;
    }

    // ---- days to come

    int ahead(int k) {
        if (!in(k, 0, 60)) {
            return -1;
        }
        Tale tale = foretell(k);
        row = new int[n() + 1];
        row[0] = tale.slides.size();
        System.arraycopy(tale.by, 0, row, 1, n());
        return tale.owed;
    }

    int slides(int s) {
        if (!side(s)) {
            return -1;
        }
        for (String slide : foretell(60).slides) {
            if (slide.endsWith(":" + s)) {
                return Integer.parseInt(slide.substring(0, slide.indexOf(':'))) - w.now + 1;
            }
        }
        return -2;
    }

    private Winter behind(int k) {
        Winter x = w.copy();
        pass(x, k);
        return x;
    }

    int later(int s, int k) {
        if (!side(s) || !in(k, 0, 60)) {
            return -1;
        }
        Winter x = behind(k);
        row = java.util.Arrays.copyOf(x.path, n());
        return x.snow[s / 2][s % 2];
    }

    int deepest(int h, int k) {
        if (!house(h) || !in(k, 0, 60)) {
            return -1;
        }
        int most = -1;
        for (int i = 0; i <= k; i++) {
            int lies = behind(i).path[h];
            if (lies > most) {
                most = lies;
                row = new int[] {i};
            }
        }
        return most;
    }

    int lord(int k) {
        if (!in(k, 0, 60)) {
            return -1;
        }
        Winter x = behind(k);
        int most = 0;
        int lord = -2;
        for (int h = 0; h < n(); h++) {
            if (owed(x, h) - owed(w, h) > most) {
                most = owed(x, h) - owed(w, h);
                lord = h;
                row = new int[] {most};
            }
        }
        return lord;
    }

    int worst(int k) {
        if (!in(k, 1, 60)) {
            return -1;
        }
        int[] many = new int[k];
        for (String slide : foretell(k).slides) {
            many[Integer.parseInt(slide.substring(0, slide.indexOf(':'))) - w.now]++;
        }
        int worst = -2;
        for (int i = k - 1; i >= 0; i--) {
            if (many[i] > 0 && (worst < 0 || many[i] >= many[worst - 1])) {
                worst = i + 1;
                row = new int[] {many[i]};
            }
        }
        return worst;
    }

    int melt() {
        for (int k = 0; k <= 60; k++) {
            Winter x = behind(k);
            int lies = sum(x.path);
            for (int[] roof : x.snow) {
                lies += sum(roof);
            }
            if (lies == 0) {
                return k;
            }
        }
        return -2;
    }

    int lazy(int k) {
        if (!in(k, 0, 60)) {
            return -1;
        }
        Tale tale = foretell(k);
        int bits = 0;
        int free = 0;
        for (int h = 0; h < n(); h++) {
            bits += tale.by[h] == 0 ? 1 << h : 0;
            free += tale.struck[h] == 0 ? 1 << h : 0;
        }
        row = new int[] {free};
        return bits;
    }

    int dig(int h, int v, int k) {
        if (!house(h) || !in(v, 0, 999) || !in(k, 0, 60)) {
            return -1;
        }
        for (int cleared = 0; cleared <= w.path[h]; cleared++) {
            Winter x = w.copy();
            x.path[h] -= cleared;
            boolean good = x.path[h] <= v;
            for (int i = 0; i < k && good; i++) {
                pass(x, new Tale());
                good = x.path[h] <= v;
            }
            if (good) {
                return cleared;
            }
        }
        return -2;
    }

    int bare(int h, int k) {
        if (!house(h) || !in(k, 0, 60)) {
            throw new NoSuchElementException();
        }
        Winter x = w.copy();
        x.snow[h] = new int[2];
        return foretell(k).owed - pass(x, k).owed;
    }

    // ---- hands: all rows are tried, from the last one on

    int best(int k, int hands) {
        return tryRows(-1, k, hands);
    }

    int own(int h, int k, int hands) {
        return house(h) ? tryRows(h, k, hands) : -1;
    }

    private int tryRows(int own, int k, int hands) {
        if (!in(k, 1, 3) || !in(hands, 1, 99)) {
            return -1;
        }
        int rows = k == 1 ? 15 : k == 2 ? 225 : 3375;
        int fewest = Integer.MAX_VALUE;
        for (int r = rows - 1; r >= 0; r--) {
            int[] sides = new int[k];
            int rest = r;
            for (int i = k - 1; i >= 0; i--) {
                sides[i] = rest % 15;
                rest /= 15;
            }
            int cost = costOf(sides, own, hands);
            if (cost >= 0 && cost <= fewest) {
                fewest = cost;
                row = sides;
            }
        }
        return fewest;
    }

    private int costOf(int[] sides, int own, int hands) {
        Winter x = w.copy();
        Tale tale = new Tale();
        for (int s : sides) {
            if (s < 14) {
                if (!side(s) || x.snow[s / 2][s % 2] == 0 || own >= 0 && s / 2 != own) {
                    return -1;
                }
                move(x, s, Math.min(hands, x.snow[s / 2][s % 2]));
            }
            pass(x, tale);
        }
        return own >= 0 ? tale.by[own] : tale.owed;
    }

    private int[] soAndElse(Winter from, int s, int k) {
        Winter x = from.copy();
        Tale first = new Tale();
        slide(x, first, s / 2, s % 2, s / 2, true);
        return new int[] {first.by[s / 2] + pass(x, k).by[s / 2], pass(from.copy(), k).by[s / 2]};
    }

    int better(int s, int k) {
        if (!side(s) || !in(k, 1, 60)) {
            return -1;
        }
        if (w.snow[s / 2][s % 2] == 0) {
            return -2;
        }
        row = soAndElse(w, s, k);
        return row[0] < row[1] ? 1 : 0;
    }

    int rests(int k, int m) {
        if (!in(k, 1, 30) || !in(m, 0, 20)) {
            return -1;
        }
        Winter x = w.copy();
        int bits = 0;
        int rounds = 0;
        int last = 0;
        while (rounds < m && last == 0) {
            rounds++;
            last = 1;
            for (int s = 0; s < 2 * n(); s++) {
                if (x.snow[s / 2][s % 2] > 0) {
                    int[] both = soAndElse(x, s, k);
                    if (both[0] < both[1]) {
                        slide(x, new Tale(), s / 2, s % 2, s / 2, true);
                        bits |= 1 << s;
                        last = 0;
                    }
                }
            }
        }
        row = new int[] {last, bits};
        return rounds;
    }

    // ---- roofs

    int rough(int v, int k) {
        if (!in(v, 1, 99) || !in(k, 0, 60)) {
            return -1;
        }
        int best = -2;
        for (int h = 0; h < n(); h++) {
            int old = town.get(h).hold;
            town.get(h).hold = v;
            int owed = foretell(k).owed;
            town.get(h).hold = old;
            if (best < 0 || owed < row[0]) {
                best = h;
                row = new int[] {owed};
            }
        }
        return best;
    }

    int turned(int k) {
        if (!in(k, 0, 60)) {
            return -1;
        }
        int best = -2;
        for (int h = 0; h < n(); h++) {
            int[] old = town.get(h).below;
            town.get(h).below = new int[] {old[1], old[0]};
            int owed = foretell(k).owed;
            town.get(h).below = old;
            if (best < 0 || owed < row[0]) {
                best = h;
                row = new int[] {owed};
            }
        }
        return best;
    }

    int needs(int h, int k) {
        if (!house(h) || !in(k, 0, 60)) {
            return -1;
        }
        int old = town.get(h).hold;
        int found = -2;
        for (int hold = 99; hold >= 1; hold--) {
            town.get(h).hold = hold;
            if (foretell(k).by[h] == 0) {
                found = hold;
            }
        }
        town.get(h).hold = old;
        return found;
    }

    int premium(int k) {
        if (n() == 0 || !in(k, 0, 60)) {
            throw new NoSuchElementException();
        }
        Tale tale = foretell(k);
        row = new int[n()];
        for (int day = 0; day < tale.owed; day++) {
            row[day % n()]++;
        }
        int most = 0;
        for (int d : tale.by) {
            most = Math.max(most, d);
        }
        return most - row[0];
    }

    // ---- tracks

    int track(int h, int day) {
        if (!house(h) || !in(day, 0, 999) || tracks.size() == 20) {
            return -1;
        }
        tracks.add(new int[] {h, day});
        return tracks.size();
    }

    int thaw() {
        int many = tracks.size();
        tracks.clear();
        return many;
    }

    private boolean wasOut(int h, int day) {
        for (int[] t : tracks) {
            if (t[0] == h && t[1] == day) {
                return true;
            }
        }
        return false;
    }

    /** Whether in each of these nights one of these houses was out. */
    private boolean explain(int houses, int days) {
        for (int day = 0; day <= 30; day++) {
            if ((days & 1 << day) != 0) {
                boolean one = false;
                for (int h = 0; h < 7; h++) {
                    one |= (houses & 1 << h) != 0 && wasOut(h, day);
                }
                if (!one) {
                    return false;
                }
            }
        }
        return true;
    }

    int suspects(int days) {
        if (days < 0) {
            return -1;
        }
        int bits = 0;
        for (int h = 0; h < n(); h++) {
            bits += explain(1 << h, days) ? 1 << h : 0;
        }
        return bits;
    }

    int gang(int days) {
        if (days < 0) {
            return -1;
        }
        for (int many = 0; many <= n(); many++) {
            for (int bits = 0; bits < 1 << n(); bits++) {
                if (Integer.bitCount(bits) == many && explain(bits, days)) {
                    row = new int[] {bits};
                    return many;
                }
            }
        }
        return -2;
    }

    // ---- kept

    boolean keep(int i) {
        if (!in(i, 0, 1)) {
            return false;
        }
        kept[i] = w.copy();
        return true;
    }

    boolean again(int i) {
        if (!in(i, 0, 1) || kept[i] == null || kept[i].houses != n()) {
            return false;
        }
        w = kept[i].copy();
        undo.clear();
        return true;
    }

    int count(int what) {
        int roofs = 0;
        for (int[] roof : w.snow) {
            roofs += sum(roof);
        }
        int[] counts = {n(), w.now, roofs, sum(w.path), all(w), weather.length(), undo.size(), tracks.size(), row.length,
            text.length()};
        return in(what, 0, 9) ? counts[what] : -1;
    }

    int row(int i) {
        if (i < 0 || i >= row.length) {
            throw new NoSuchElementException();
        }
        return row[i];
    }
}
