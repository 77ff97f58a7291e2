import java.util.TreeSet;

/**
 * Edges that the document names: each is a test of its own, under the promise (or term) and the words that it holds to.
 * finish() also fails if a promise of those that were announced has no edge, or an edge asked nothing.
 */
final class Edges {
    static final int[] WILD = {Integer.MIN_VALUE, -1000000, -2, -1, 1000000, Integer.MAX_VALUE};

    interface Edge {
        void look(Checks t);
    }

    private final Checks checks = new Checks();
    private final TreeSet<Integer> bare = new TreeSet<>();
    private int edges;

    Edges(int firstPromise, int lastPromise) {
        for (int promise = firstPromise; promise <= lastPromise; promise++) {
            bare.add(promise);
        }
    }

    void term(int number, String words, Edge edge) {
        look("Term " + number + ", \"" + words + "\": ", edge);
    }

    void promise(int number, String words, Edge edge) {
        bare.remove(number);
        look("Promise " + number + ", \"" + words + "\": ", edge);
    }

    private void look(String heading, Edge edge) {
        edges++;
        int ahead = checks.asked();
        checks.head(heading);
        edge.look(checks);
        checks.due("asks something", checks.asked() > ahead, true);
    }

    void finish() {
        checks.head("");
        checks.due("promises without an edge " + bare, bare.size(), 0);
        System.out.println(edges + " edges");
        checks.finish();
    }

    /** All that can be seen of an object without a change: the town, days to come, debts, what is told and kept. */
    static String image(SnowForSummer x) {
        StringBuilder b = new StringBuilder();
        for (int what = 0; what <= 9; what++) {
            b.append(x.count(what)).append(' ');
        }
        for (int house = 0; house < x.count(0); house++) {
            for (int what = 0; what <= 8; what++) {
                b.append(x.of(house, what)).append(' ');
            }
            for (int to = 0; to < x.count(0); to++) {
                b.append(x.debt(house, to)).append(' ');
            }
        }
        for (int day = 0; day < x.count(5); day++) {
            b.append(x.falls(day)).append(' ');
        }
        for (int i = 0; i < x.count(8); i++) {
            b.append(x.row(i)).append(' ');
        }
        return b.toString();
    }

    /** The call answers so, and changes nothing. */
    static void idle(Checks t, String what, SnowForSummer x, int answer, Checks.Call call) {
        String ahead = image(x);
        t.due(what, call.answer(), answer);
        t.due(what + " changes nothing", image(x).equals(ahead), true);
    }

    /** The call throws as the document says, and changes nothing. */
    static void idleThrow(Checks t, String what, SnowForSummer x, Checks.Call call) {
        String ahead = image(x);
        t.noSuch(what, call);
        t.due(what + " changes nothing", image(x).equals(ahead), true);
    }

    /** The same text so many times. */
    static String times(int n, String text) {
        return text.repeat(n);
    }

    /** What a slide of 7 inches of house 1 (HOLD 9) onto house 0 (2 inches), set off by 2 in day 3, owes; it thaws 4. */
    static int owes(String rule) {
        SnowForSummer x = Checks.town("5,00;9,00;3,00", "000d");
        x.days(3);
        x.set(1, 2, 7);
        x.set(0, 3, 2);
        int read = Checks.put(x, rule).rule();
        if (read != 0) {
            return read;
        }
        x.loose(2, 3);
        return x.row(0);
    }
}
