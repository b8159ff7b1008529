import java.util.ArrayList;
import java.util.List;

/**
 * Each argument of each call: the last values that are allowed, on both sides, are answered; the first that are not,
 * and the farthest, are refused, and behind a refused call all is answered as by an object that was not asked it.
 */
public final class RefusedTests extends Kit {
    private interface Call {
        long ask(ReadAloud x, int[] a);
    }

    /** An argument: values that are allowed, and such as are not. */
    private record Argument(int[] good, int[] bad) {
    }

    private record Row(String name, int refused, int[] fine, Argument[] arguments, Call call) {
    }

    private static final List<Row> ROWS = new ArrayList<>();
    private static final String STEPS = "reader;turn;turn;turn;turn;reader;drop 1;turn;turn;swap 6;reader;shift 0;shift 1;shift 2;shift 3;"
        + "reader;double 1;swap 1;turn;swap 5;reader;swap 1;swap 2;swap 3;swap 4;";
    private static final String TEXT = "text 0 1 2 3 0 1;";
    private static final String TAPE = "text 3 3;reader;turn;  ";

    private static Argument range(int least, int most) {
        return new Argument(new int[] {least, most}, new int[] {least - 1, most + 1, MIN, MAX});
    }

    private static int[] v(int... values) {
        return values;
    }

    private static void row(String name, int refused, int[] fine, Call call, Argument... arguments) {
        ROWS.add(new Row(name, refused, fine, arguments, call));
    }

    /** Two BOOKS (of 5 READERS and of 1), two YEARS (of 40 DEEDS; of 3, the second of which can't be), two SIGHTS. */
    private static ReadAloud full() {
        ReadAloud x = one();
        x.image(0);
        due(tell(x, 0, TEXT + "reader;drop 1;"), 1);
        due(tell(x, 1, "day;restore 0;day;"), 1);
        due(tell(x, 2, "seen 9 3;"), 1);
        due(tell(x, 0, 0, " text 4;"), NONE);
        put(x, TAPE);
        x.image(2);
        x.image(1);
        return x;
    }

    private static ReadAloud one() {
        ReadAloud x = new ReadAloud();
        due(tell(x, 0, TEXT + "kin 0 1;kin 1 2;kin 2 3;kin 3 0;" + STEPS), 0);
        due(tell(x, 1, "read 3 4;copy 3 2;" + many("day;", 38)), 0);
        due(tell(x, 2, many("seen 0 0 1 2 3 0 1;", 6)), 0);
        return x;
    }

    // ---- the calls, promise by promise

    private static final Argument BOOK = range(0, 1);
    private static final Argument NUMBER = range(0, 5460);
    private static final Argument SPAN = range(0, 9);
    private static final Argument FLAG = new Argument(v(0, 1), v());
    private static final Argument WHAT = new Argument(v(0, 5, 10, 13, 20, 24), v(-1, 6, 9, 14, 19, 25, MIN, MAX));

    private static void telling() {
        row("end", NONE, v(7), (x, a) -> x.end(a[0]), range(0, TAPE.length()));
        row("fault", NONE, v(0), (x, a) -> x.fault(a[0]), range(0, 1));
        row("book", NONE, v(0, 0), (x, a) -> x.book(a[0], a[1]), BOOK, new Argument(
            v(0, 1, 10, 13, 20, 24, 30, 37, 40, 47, 50, 57, 60, 67, 70, 77),
            v(-1, 2, 9, 14, 19, 25, 29, 38, 39, 48, 49, 58, 59, 68, 69, 78, 79, 80, 81, 130, MIN, MAX)));
        row("book", NONE, v(1, 0), (x, a) -> x.book(a[0], a[1]), BOOK, new Argument(
            v(20, 30, 31), v(21, 24, 29, 32, 33, 37, 38, 40, 41, 70, 77)));
        row("count", NO_SUCH, v(0), (x, a) -> x.count(a[0]), range(0, 2));
        row("image", 0, v(0), (x, a) -> x.image(a[0]) ? 1 : 0, range(0, 2));
        row("again", 0, v(0), (x, a) -> x.again(a[0]) ? 1 : 0, range(0, 2));
    }

    private static void texts() {
        row("word", NONE, v(5460, -1), (x, a) -> x.word(a[0], a[1]), NUMBER, range(-1, 5));
        row("word", NONE, v(4, -1), (x, a) -> x.word(a[0], a[1]), NUMBER, range(-1, 0));
        row("drift", NONE, v(6, 7), (x, a) -> x.drift(a[0], a[1]), NUMBER, NUMBER);
        row("read", NONE, v(0, 6, 0), (x, a) -> x.read(a[0], a[1], a[2]), BOOK, NUMBER, range(0, 4));
        row("read", NONE, v(1, 6, 0), (x, a) -> x.read(a[0], a[1], a[2]), BOOK, NUMBER, range(0, 0));
        row("shared", NONE, v(6, 7, 0), (x, a) -> x.shared(a[0], a[1], a[2] > 0), NUMBER, NUMBER, FLAG);
        row("shared", NONE, v(6, 7, 1), (x, a) -> x.shared(a[0], a[1], a[2] > 0), NUMBER, NUMBER, FLAG);
    }

    private static void years() {
        row("deed", NO_SUCH, v(0, 0, 0), (x, a) -> x.deed(a[0], a[1], a[2]), BOOK, range(-1, 39), range(0, 2));
        row("deed", NO_SUCH, v(1, 0, 0), (x, a) -> x.deed(a[0], a[1], a[2]), BOOK, range(-1, 2), range(0, 2));
        row("deed", NO_SUCH, v(0, -1, 0), (x, a) -> x.deed(a[0], a[1], a[2]), BOOK, range(-1, 39), new Argument(v(0), v(-1, 1, 2, 3)));
        row("stop", NONE, v(0, 0), (x, a) -> x.stop(a[0], a[1]), BOOK, BOOK);
        row("state", NO_SUCH, v(0, 0, 0, 0), (x, a) -> x.state(a[0], a[1], a[2], a[3]), BOOK, BOOK, range(0, 40), WHAT);
        row("state", NO_SUCH, v(0, 1, 0, 0), (x, a) -> x.state(a[0], a[1], a[2], a[3]), BOOK, BOOK, range(0, 1), WHAT);
        row("state", NO_SUCH, v(0, 1, 0, 0), (x, a) -> x.state(a[0], a[1], a[2], a[3]), BOOK, BOOK, new Argument(v(), v(2, 3, 4)), WHAT);
        row("drawn", NO_SUCH, v(0, 5, 1, 0), (x, a) -> x.drawn(a[0], a[1], a[2], a[3]), BOOK, new Argument(v(MIN, -1, 0, MAX), v()),
            range(0, 60), WHAT);
        row("drawn", NO_SUCH, v(1, 5, 0, 0), (x, a) -> x.drawn(a[0], a[1], a[2], a[3]), BOOK, new Argument(v(MIN, MAX), v()),
            range(0, 60), new Argument(v(13, 20), v(14, 19, 21)));
        row("fact", NO_SUCH, v(0, 0, 0), (x, a) -> x.fact(a[0], a[1], a[2]), BOOK, range(-1, 5), range(0, 1));
        row("fact", NO_SUCH, v(1, 0, 0), (x, a) -> x.fact(a[0], a[1], a[2]), BOOK, range(-1, 0), range(0, 1));
        row("fact", NO_SUCH, v(0, -1, 0), (x, a) -> x.fact(a[0], a[1], a[2]), BOOK, range(-1, 5), new Argument(v(0), v(-1, 1, 2)));
    }

    private static void ways() {
        row("making", NONE, v(0, 5460, 0, -1), (x, a) -> x.making(a[0], a[1], a[2], a[3]), BOOK, NUMBER, NUMBER, range(-1, 5));
        row("making", NONE, v(0, 0, 0, -1), (x, a) -> x.making(a[0], a[1], a[2], a[3]), BOOK, NUMBER, new Argument(v(0), v(1)), range(-1, -1));
        row("ring", NONE, v(0, 0), (x, a) -> x.ring(a[0], a[1]), BOOK, NUMBER);
        row("sound", NONE, v(0, 0), (x, a) -> x.sound(a[0], a[1]), BOOK, range(0, 31));
        row("sound", NONE, v(1, 0), (x, a) -> x.sound(a[0], a[1]), BOOK, range(0, 1));
        row("like", NONE, v(0, 0, 0), (x, a) -> x.like(a[0], a[1], a[2]), BOOK, range(0, 4), range(0, 4));
        row("like", NONE, v(1, 0, 0), (x, a) -> x.like(a[0], a[1], a[2]), BOOK, range(0, 0), range(0, 0));
        row("orbits", NONE, v(0, 0, 0), (x, a) -> x.orbits(a[0], a[1], a[2]), BOOK, range(0, 4), range(0, 5));
        row("orbits", NONE, v(1, 0, 0), (x, a) -> x.orbits(a[0], a[1], a[2]), BOOK, range(0, 0), range(0, 5));
        row("silenced", NONE, v(0, 5460, 0), (x, a) -> x.silenced(a[0], a[1], a[2]), BOOK,
            new Argument(v(1, 5460), v(-1, 0, 5461, MIN, MAX)), new Argument(v(0, 5459), v(-1, 5460, 5461, MIN, MAX)));
        row("circles", NONE, v(0, 6), (x, a) -> x.circles(a[0], a[1]), BOOK, range(-2, 5460));
        for (int flag = 0; flag < 2; flag++) {
            row("reach", NONE, v(0, 6, flag), (x, a) -> x.reach(a[0], a[1], a[2] > 0), BOOK, NUMBER, FLAG);
            row("joined", NONE, v(0, 6, 7, flag), (x, a) -> x.joined(a[0], a[1], a[2], a[3] > 0), BOOK, NUMBER, NUMBER, FLAG);
            row("nearest", NONE, v(0, 6, 7, flag), (x, a) -> x.nearest(a[0], a[1], a[2], a[3] > 0), BOOK, NUMBER, NUMBER, FLAG);
            row("settles", NONE, v(0, 6, flag), (x, a) -> x.settles(a[0], a[1], a[2] > 0), BOOK, NUMBER, FLAG);
            row("unmade", NO_SUCH, v(0, flag), (x, a) -> x.unmade(a[0], a[1] > 0), BOOK, FLAG);
            row("kinship", NONE, v(0, 0, flag), (x, a) -> x.kinship(a[0], a[1], a[2] > 0), BOOK, range(0, 3), FLAG);
        }
    }

    private static void spans() {
        row("rota", NONE, v(0, 9, 0), (x, a) -> x.rota(a[0], a[1], a[2]), BOOK, SPAN,
            new Argument(v(0, 1, 10, 18), v(-1, 2, 9, 19, 20, MIN, MAX)));
        row("rota", NONE, v(0, 1, 0), (x, a) -> x.rota(a[0], a[1], a[2]), BOOK, SPAN, new Argument(v(0, 1, 10), v(-1, 2, 9, 11, 18, MIN, MAX)));
        row("rota", NONE, v(0, 0, 0), (x, a) -> x.rota(a[0], a[1], a[2]), BOOK, SPAN, new Argument(v(0, 1), v(-1, 2, 9, 10, 11, MIN, MAX)));
        for (int flag = 0; flag < 2; flag++) {
            row("mean", NONE, v(0, 9, flag), (x, a) -> x.mean(a[0], a[1], a[2] > 0), BOOK, SPAN, FLAG);
            row("elders", NO_SUCH, v(0, 6, 9, flag), (x, a) -> x.elders(a[0], a[1], a[2], a[3] > 0), BOOK, NUMBER, SPAN, FLAG);
        }
        Call play = (x, a) -> x.play(a[0], a[1], a[2], a[3], a[4], a[5] > 0);
        Argument some = new Argument(v(1, 31), v(0, -1, 32, 33, MIN, MAX));
        Argument none = new Argument(v(0, 1, 31), v(-1, 32, MIN, MAX));
        row("play", NONE, v(0, 9, 0, 1, 1, 0), play, BOOK, SPAN, range(0, 3), some, some, FLAG);
        row("play", NONE, v(0, 2, 3, 1, 1, 1), play, BOOK, new Argument(v(1, 9), v(0, -1, 10, MIN, MAX)), range(0, 3), some, some, FLAG);
        row("play", NONE, v(0, 1, 0, 1, 1, 0), play, BOOK, SPAN, range(0, 3), some, none, FLAG);
        row("play", NONE, v(0, 1, 0, 1, 1, 1), play, BOOK, range(1, 9), range(0, 3), some, none, FLAG);
        row("play", NONE, v(1, 2, 0, 1, 1, 0), play, BOOK, SPAN, range(0, 3), new Argument(v(1), v(0, 2, 3)), new Argument(v(1), v(0, 2, 3)), FLAG);
        row("fits", NONE, v(0, 0, 9, -1), (x, a) -> x.fits(a[0], a[1], a[2], a[3]), BOOK, BOOK, SPAN, range(-1, 5460));
        Call sure = (x, a) -> x.sure(a[0], a[1], a[2], a[3]);
        row("sure", NONE, v(1, 0, 9, -1), sure, BOOK, new Argument(v(0), v(-1, 2, MIN, MAX)), SPAN, range(-1, 8));
        row("sure", NONE, v(1, 0, 1, 0), sure, new Argument(v(1), v(-1, 2, MIN, MAX)), new Argument(v(0, 1), v(-1, 2, MIN, MAX)),
            range(1, 9), range(-1, 0));
        row("sure", NONE, v(1, 0, 0, -1), sure, BOOK, BOOK, SPAN, range(-1, -1));
    }

    // ---- how they are asked

    private static String call(Row row, int[] a) {
        StringBuilder s = new StringBuilder(row.name).append('(');
        for (int i = 0; i < a.length; i++) {
            s.append(i == 0 ? "" : ", ").append(a[i]);
        }
        return s.append(')').toString();
    }

    private static int[] changed(int[] a, int at, int value) {
        int[] b = a.clone();
        b[at] = value;
        return b;
    }

    private static void allowed(Row row) {
        for (int i = 0; i < row.arguments.length; i++) {
            for (int value : row.arguments[i].good) {
                int[] a = changed(row.fine, i, value);
                says(call(row, a) + " is answered");
                due(row.call.ask(full(), a) != row.refused, true);
            }
        }
    }

    private static void refused(Row row) {
        ReadAloud x = full();
        for (int i = 0; i < row.arguments.length; i++) {
            for (int value : row.arguments[i].bad) {
                int[] a = changed(row.fine, i, value);
                says(call(row, a) + " is refused");
                due(row.call.ask(x, a), row.refused);
            }
        }
        says("all is as it was behind refused calls of " + row.name);
        alike(x, full());
    }

    /** Where there is one of each sort alone, the other is none such. */
    private static void missing(Row row, ReadAloud x, int there) {
        for (int i = 0; i < row.arguments.length; i++) {
            if (row.arguments[i] == BOOK) {
                int[] a = changed(row.fine, i, there);
                says(call(row, a) + " is refused where there are only " + there);
                due(row.call.ask(x, a), row.refused);
            }
        }
    }

    /** All questions of one object, by a stride so that others are between: each is answered as by a new one. */
    private static void askedBefore(int stride) {
        List<Row> rows = new ArrayList<>();
        List<int[]> asked = new ArrayList<>();
        for (Row row : ROWS) {
            for (int i = 0; i < row.arguments.length && !List.of("end", "image", "again").contains(row.name); i++) {
                for (int value : row.arguments[i].good) {
                    rows.add(row);
                    asked.add(changed(row.fine, i, value));
                }
            }
        }
        ReadAloud x = full();
        for (int i = 0; i < rows.size(); i++) {
            // Behind 300 calls a new one, as one is for 512 calls and full() has less than 100.
            x = i % 300 == 299 ? full() : x;
            int k = (int) ((long) i * stride % rows.size());
            Row row = rows.get(k);
            says(call(row, asked.get(k)) + " is answered as if nothing had been asked before");
            long once = row.call.ask(x, asked.get(k));
            due(row.call.ask(full(), asked.get(k)), once);
        }
    }

    private static void alike(ReadAloud x, ReadAloud y) {
        for (int sort = -1; sort <= 3; sort++) {
            due(x.count(sort), y.count(sort));
            due(x.fault(sort), y.fault(sort));
        }
        for (int b = 0; b < 2; b++) {
            for (int what = 0; what < 80; what++) {
                due(x.book(b, what), y.book(b, what));
            }
            for (int k = -1; k < 40; k += 3) {
                due(x.deed(b, k, 0), y.deed(b, k, 0));
            }
            for (int k = -1; k < 6; k++) {
                due(x.fact(b, k, 0), y.fact(b, k, 0));
            }
            due(x.stop(b, 0), y.stop(b, 0));
            due(x.state(b, 0, 2, 12), y.state(b, 0, 2, 12));
            due(x.drawn(b, 3, 40, 11), y.drawn(b, 3, 40, 11));
            due(x.reach(b, 77, false), y.reach(b, 77, false));
            due(x.rota(b, 7, 1), y.rota(b, 7, 1));
            due(x.circles(b, -1), y.circles(b, -1));
        }
        tapeAlike(x, y);
        for (int k = 2; k >= 0; k--) {
            due(x.again(k), y.again(k));
            due(x.count(0), y.count(0));
            due(x.fault(0), y.fault(0));
            tapeAlike(x, y);
        }
    }

    /** The tape's length and bytes, by what it tells. */
    private static void tapeAlike(ReadAloud x, ReadAloud y) {
        int have = x.feed(0, 0, 0, 0, 0);
        due(y.feed(0, 0, 0, 0, 0), have);
        due(x.end(Math.max(0, have - 20)), y.end(Math.max(0, have - 20)));
        due(x.text(0, 0), y.text(0, 0));
        due(x.book(0, 0), y.book(0, 0));
        due(x.book(0, 1), y.book(0, 1));
    }

    public static void main(String[] args) {
        telling();
        texts();
        years();
        ways();
        spans();
        for (Row row : ROWS) {
            allowed(row);
            refused(row);
            missing(row, new ReadAloud(), 0);
            missing(row, one(), 1);
        }
        for (int stride : new int[] {1, 7, 61}) {
            askedBefore(stride);
        }
        finish();
    }
}
