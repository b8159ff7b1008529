import java.util.Random;

/** Runs of calls by seeds, each call asked of ReadAloud and of the Model. */
public final class ModelTests {
    private static final int RUNS = 400;
    // An object is for 512 calls; the longest text and the longest row of questions are below 100.
    private static final int CALLS = 412;
    private static int wrong = 0;
    private static int[] asked = new int[37];

    private final Random random;
    private final ReadAloud x = new ReadAloud();
    private final Model m = new Model();
    private final StringBuilder story = new StringBuilder();
    private int calls = 0;

    private ModelTests(long seed) {
        random = new Random(seed);
    }

    public static void main(String[] args) {
        int runs = args.length > 0 ? Integer.parseInt(args[0]) : RUNS;
        int from = args.length > 1 ? Integer.parseInt(args[1]) : 0;
        for (int seed = from; seed < from + runs && wrong < 10; seed++) {
            new ModelTests(seed).run(seed);
        }
        for (int k = 0; k < asked.length; k++) {
            if (k != 0 && asked[k] == 0) {
                wrong++;
                System.out.println("promise " + (k + 1) + " was never asked");
            }
        }
        System.out.println(wrong == 0 ? "all answers are as the model's" : wrong + " answers are not as the model's");
        if (wrong != 0) {
            System.exit(1);
        }
    }

    private void run(int seed) {
        int before = wrong;
        tell(0, -1, bookText());
        tell(1, -1, yearText());
        tell(2, -1, sightText());
        while (calls < CALLS && wrong == before) {
            call();
        }
        if (calls > 512) {
            wrong++;
            System.out.println("seed " + seed + " has " + calls + " calls");
        }
        if (wrong > before) {
            System.out.println("seed " + seed + ", behind the texts:\n" + story);
        }
    }

    private int below(int n) {
        return random.nextInt(n);
    }

    private void same(int promise, String call, long got, long want) {
        calls++;
        asked[promise - 1]++;
        if (got != want) {
            wrong++;
            System.out.println(call + " answered " + got + ", the model says " + want);
        }
    }

    // ---- texts

    private void tell(int sort, int at, String text) {
        StringBuilder s = new StringBuilder(text);
        while (s.length() % 20 != 0) {
            s.append(' ');
        }
        same(3, "end(0)", x.end(0), m.end(0));
        for (int i = 0; i < s.length(); i += 20) {
            int[] n = new int[5];
            for (int j = 0; j < 20; j++) {
                n[j / 4] = n[j / 4] << 8 | s.charAt(i + j) & 255;
            }
            same(2, "feed", x.feed(n[0], n[1], n[2], n[3], n[4]), m.feed(n));
        }
        same(3, "end", x.end(text.length()), m.end(text.length()));
        if (below(8) == 0) {
            images();
        }
        same(4, "text(" + sort + ", " + at + ") of " + text, x.text(sort, at), m.text(sort, at));
        for (int what = -1; what <= 2; what++) {
            same(5, "fault(" + what + ") of sort " + sort + ": " + text, x.fault(what), m.fault(what));
        }
        story.append(sort).append(' ').append(at).append(": ").append(text).append('\n');
    }

    private void tellSomething() {
        int sort = below(20) == 0 ? below(6) - 2 : below(3);
        int at = below(4) == 0 ? below(5) - 2 : below(3) - 1;
        String text = sort == 0 ? bookText() : sort == 1 ? yearText() : sightText();
        tell(sort, at, below(3) == 0 ? spoiled(text) : text);
    }

    private String number(int below, int oddly) {
        int n = below(oddly) == 0 ? below(100) : below(below);
        return below(12) == 0 && n < 10 ? "0" + n : "" + n;
    }

    private String words(int most) {
        StringBuilder s = new StringBuilder();
        int length = below(150) == 0 ? 7 : below(most + 1);
        for (int i = 0; i < length; i++) {
            s.append(gap()).append(number(4, 300));
        }
        return s.toString();
    }

    private String gap() {
        return below(20) == 0 ? " \n" : below(20) == 0 ? "\n" : " ";
    }

    private String bookText() {
        StringBuilder s = new StringBuilder();
        s.append("text").append(words(below(3) == 0 ? 6 : 4)).append(';');
        for (int i = below(4); i > 0; i--) {
            s.append("kin ").append(number(4, 300)).append(gap()).append(number(4, 300)).append(';');
        }
        int readers = below(100) == 0 ? 6 : below(12) == 0 ? 0 : 1 + below(below(3) == 0 ? 5 : 3);
        for (int r = 0; r < readers; r++) {
            s.append("reader;");
            int steps = below(150) == 0 ? 5 : below(5);
            for (int k = 0; k < steps; k++) {
                int kind = below(5);
                if (kind == 4) {
                    s.append("turn;");
                } else if (kind == 0) {
                    s.append("shift").append(gap()).append(number(4, 300)).append(';');
                } else {
                    int at = below(200) == 0 ? 0 : 1 + below(6);
                    s.append(kind == 1 ? "drop " : kind == 2 ? "double " : "swap ").append(at).append(';');
                }
            }
            if (below(8) == 0) {
                s.append(gap()).append("text").append(words(6)).append(';');
            }
        }
        return s.toString();
    }

    private String yearText() {
        StringBuilder s = new StringBuilder();
        int deeds = below(30) == 0 ? 40 + below(2) : below(25);
        for (int i = 0; i < deeds; i++) {
            int kind = below(9);
            if (kind < 3) {
                s.append("read ").append(number(4, 300)).append(gap()).append(below(10) == 0 ? below(5) : below(3));
            } else if (kind == 3) {
                int one = below(4);
                s.append("copy ").append(one).append(gap()).append(below(100) == 0 ? one : (one + 1 + below(3)) % 4);
            } else if (kind == 8) {
                s.append("day");
            } else {
                s.append(kind == 4 ? "seal " : kind == 5 ? "restore " : "hush ").append(number(4, 300));
            }
            s.append(';').append(below(6) == 0 ? gap() : "");
        }
        return s.length() > 600 ? s.substring(0, 600) : s.toString();
    }

    /** FACTS that are so on the way of a BOOK, for the most part: others would fit nothing. */
    private String sightText() {
        StringBuilder s = new StringBuilder();
        int facts = below(60) == 0 ? 7 : below(4);
        Model.Book b = m.b(below(2));
        String[] way = new String[10];
        for (int i = 0; i < 10; i++) {
            way[i] = i == 0 ? b == null ? "" : b.text : b == null || b.readers.isEmpty() ? way[i - 1] : b.by(below(b.readers.size()), way[i - 1]);
        }
        for (int i = 0; i < facts; i++) {
            int behind = below(6);
            s.append("seen").append(gap()).append(below(100) == 0 ? "" + below(100) : "" + behind);
            if (below(6) == 0) {
                s.append(words(6));
            } else {
                for (char c : way[behind].toCharArray()) {
                    s.append(gap()).append(c);
                }
            }
            s.append(below(20) == 0 ? "\n;" : ";");
        }
        return s.toString();
    }

    private String spoiled(String text) {
        StringBuilder s = new StringBuilder(text);
        String signs = "; 0129az\n\t-#" + (char) 233 + (char) 0;
        for (int i = 1 + below(2); i > 0; i--) {
            int at = below(s.length() + 1);
            int how = below(4);
            if (how == 0) {
                s.insert(at, signs.charAt(below(signs.length())));
            } else if (how == 1 && at < s.length()) {
                s.deleteCharAt(at);
            } else if (how == 2 && at < s.length()) {
                s.setCharAt(at, signs.charAt(below(signs.length())));
            } else {
                s.setLength(at);
            }
        }
        return s.length() > 600 ? s.substring(0, 600) : s.toString();
    }

    // ---- arguments, wrong ones among them

    private int aBook() {
        return below(25) == 0 ? below(6) - 2 : below(Math.max(1, m.told.books.size()));
    }

    private int aText(int book) {
        if (below(25) == 0) {
            return new int[] {-1, -2, 5461, 5460, 0, Integer.MAX_VALUE, Integer.MIN_VALUE}[below(7)];
        }
        Model.Book b = m.b(book);
        if (b == null || below(3) == 0) {
            return below(below(2) == 0 ? 5461 : 90);
        }
        String t = below(2) == 0 ? b.text : Model.TEXTS[below(90)];
        for (int i = below(6); i > 0 && !b.readers.isEmpty(); i--) {
            t = b.by(below(b.readers.size()), t);
        }
        return Model.number(t);
    }

    private int aReader(int book) {
        Model.Book b = m.b(book);
        return b == null || b.readers.isEmpty() || below(20) == 0 ? below(8) - 2 : below(b.readers.size());
    }

    private int someReaders(int book) {
        Model.Book b = m.b(book);
        if (b == null || below(20) == 0) {
            return new int[] {-1, 32, 31, 1 << 31, 0}[below(5)];
        }
        return below(1 << b.readers.size());
    }

    /** A number of readings that the Model can go through. */
    private int aSpan(int book) {
        Model.Book b = m.b(book);
        if (b == null || below(20) == 0) {
            return below(2) == 0 ? -1 - below(3) : 10 + below(3);
        }
        int readers = b.readers.size();
        return below(readers <= 1 ? 10 : readers == 2 ? 9 : readers == 3 ? 6 : 5);
    }

    private int odd(int usual, int more) {
        return below(12) == 0 ? below(more) - 2 : below(usual);
    }

    private void call() {
        switch (below(14)) {
            case 0: tellSomething(); break;
            case 1: images(); break;
            case 2: told(); break;
            case 3: numbers(); break;
            case 4: years(); break;
            case 5: ways(); break;
            case 6: ways(); break;
            case 7: settled(); break;
            case 8: rotas(); break;
            case 9: rotas(); break;
            case 10: sights(); break;
            case 11: sights(); break;
            case 12: draws(); break;
            default: all(); break;
        }
    }

    private void images() {
        int k = odd(3, 7);
        same(36, "image(" + k + ")", x.image(k) ? 1 : 0, m.image(k) ? 1 : 0);
        if (below(2) == 0) {
            int j = odd(3, 7);
            same(37, "again(" + j + ")", x.again(j) ? 1 : 0, m.again(j) ? 1 : 0);
            same(3, "end", x.end(30), m.end(30));
            same(5, "fault(0)", x.fault(0), m.fault(0));
            same(5, "fault(1)", x.fault(1), m.fault(1));
        }
    }

    private void told() {
        for (int i = 0; i < 12; i++) {
            int b = aBook();
            int what = below(3) == 0 ? below(30) - 3 : 30 + below(55);
            same(6, "book(" + b + ", " + what + ")", x.book(b, what), m.book(b, what));
            int year = odd(2, 6);
            int deed = below(5) == 0 ? below(44) - 2 : below(12);
            what = below(7) - 2;
            same(10, "deed(" + year + ", " + deed + ", " + what + ")", x.deed(year, deed, what), m.deed(year, deed, what));
            int sight = odd(2, 6);
            int fact = below(10) - 2;
            what = below(5) - 1;
            same(23, "fact(" + sight + ", " + fact + ", " + what + ")", x.fact(sight, fact, what), m.fact(sight, fact, what));
        }
        for (int sort = -2; sort <= 3; sort++) {
            same(35, "count(" + sort + ")", x.count(sort), m.count(sort));
        }
        int b = aBook();
        for (int w = -1; w <= 4; w++) {
            boolean ring = random.nextBoolean();
            same(27, "kinship(" + b + ", " + w + ", " + ring + ")", x.kinship(b, w, ring), m.kinship(b, w, ring));
        }
    }

    private void numbers() {
        for (int i = 0; i < 6; i++) {
            int b = aBook();
            int one = aText(b);
            int other = aText(b);
            int k = below(9) - 2;
            boolean f = random.nextBoolean();
            int r = aReader(b);
            String two = one + ", " + other;
            same(7, "word(" + one + ", " + k + ")", x.word(one, k), m.word(one, k));
            same(8, "drift(" + two + ")", x.drift(one, other), m.drift(one, other));
            same(9, "read(" + b + ", " + one + ", " + r + ")", x.read(b, one, r), m.read(b, one, r));
            same(28, "shared(" + two + ", " + f + ")", x.shared(one, other, f), m.shared(one, other, f));
        }
    }

    private static final int[] WHATS = {-2, -1, 0, 1, 2, 3, 4, 5, 6, 9, 10, 11, 12, 13, 14, 19, 20, 21, 22, 23, 24, 25, 26};

    private void years() {
        int b = aBook();
        int y = below(10) == 0 ? below(5) - 2 : below(2);
        same(11, "stop(" + b + ", " + y + ")", x.stop(b, y), m.stop(b, y));
        int stop = m.stop(b, y);
        int n = below(3) == 0 ? below(44) - 2 : Math.max(0, stop - below(4) + 1);
        for (int what : WHATS) {
            same(12, "state(" + b + ", " + y + ", " + n + ", " + what + ")", x.state(b, y, n, what), m.state(b, y, n, what));
        }
    }

    private void ways() {
        int b = aBook();
        int one = aText(b);
        int other = aText(b);
        boolean f = random.nextBoolean();
        String two = "(" + b + ", " + one + ", " + other;
        for (int k = -2; k <= Math.min(m.making(b, one, other, -1) + 1, 4); k++) {
            same(13, "making" + two + ", " + k + ")", x.making(b, one, other, k), m.making(b, one, other, k));
        }
        same(14, "ring(" + b + ", " + one + ")", x.ring(b, one), m.ring(b, one));
        same(15, "reach(" + b + ", " + one + ", " + f + ")", x.reach(b, one, f), m.reach(b, one, f));
        same(29, "joined" + two + ", " + f + ")", x.joined(b, one, other, f), m.joined(b, one, other, f));
        same(30, "nearest" + two + ", " + f + ")", x.nearest(b, one, other, f), m.nearest(b, one, other, f));
        same(33, "silenced" + two + ")", x.silenced(b, one, other), m.silenced(b, one, other));
    }

    private void settled() {
        int b = aBook();
        int one = aText(b);
        boolean f = random.nextBoolean();
        same(31, "settles(" + b + ", " + one + ", " + f + ")", x.settles(b, one, f), m.settles(b, one, f));
        same(32, "unmade(" + b + ", " + f + ")", x.unmade(b, f), m.unmade(b, f));
        int n = odd(5, 14);
        same(21, "elders(" + b + ", " + one + ", " + n + ", " + f + ")", x.elders(b, one, n, f), m.elders(b, one, n, f));
    }

    private void rotas() {
        int b = aBook();
        int n = aSpan(b);
        for (int what = -2; what < 22; what += 1 + below(4)) {
            same(19, "rota(" + b + ", " + n + ", " + what + ")", x.rota(b, n, what), m.rota(b, n, what));
        }
        boolean f = random.nextBoolean();
        same(20, "mean(" + b + ", " + n + ", " + f + ")", x.mean(b, n, f), m.mean(b, n, f));
        for (int i = 0; i < 3; i++) {
            int w = odd(4, 8);
            int one = someReaders(b);
            int other = someReaders(b);
            boolean g = random.nextBoolean();
            String call = "play(" + b + ", " + n + ", " + w + ", " + one + ", " + other + ", " + g + ")";
            same(22, call, x.play(b, n, w, one, other, g), m.play(b, n, w, one, other, g));
        }
    }

    private void sights() {
        int b = aBook();
        int s = below(10) == 0 ? below(5) - 2 : below(2);
        int n = aSpan(b);
        int number = below(2) == 0 ? -1 : aText(b);
        String of = "(" + b + ", " + s + ", " + n + ", ";
        same(24, "fits" + of + number + ")", x.fits(b, s, n, number), m.fits(b, s, n, number));
        for (int k = -2; k <= n + 1 && k < 11; k++) {
            same(25, "sure" + of + k + ")", x.sure(b, s, n, k), m.sure(b, s, n, k));
        }
    }

    private void draws() {
        int b = aBook();
        int seed = below(2) == 0 ? random.nextInt() : below(100);
        int n = below(10) == 0 ? below(70) - 3 : below(61);
        for (int what : WHATS) {
            same(26, "drawn(" + b + ", " + seed + ", " + n + ", " + what + ")", x.drawn(b, seed, n, what), m.drawn(b, seed, n, what));
        }
    }

    private void all() {
        int b = aBook();
        int r = aReader(b);
        int q = aReader(b);
        int bits = someReaders(b);
        same(16, "sound(" + b + ", " + bits + ")", x.sound(b, bits), m.sound(b, bits));
        same(17, "like(" + b + ", " + r + ", " + q + ")", x.like(b, r, q), m.like(b, r, q));
        int what = odd(6, 11);
        same(18, "orbits(" + b + ", " + r + ", " + what + ")", x.orbits(b, r, what), m.orbits(b, r, what));
        int number = below(3) == 0 ? -1 - below(3) : aText(b);
        same(34, "circles(" + b + ", " + number + ")", x.circles(b, number), m.circles(b, number));
    }
}
