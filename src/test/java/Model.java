import java.math.BigInteger;
import java.util.ArrayDeque;
import java.util.ArrayList;
import java.util.Arrays;
import java.util.HashMap;
import java.util.HashSet;
import java.util.List;
import java.util.Map;
import java.util.Set;
import java.util.TreeSet;

/**
 * What the document says, once more and as slowly as it likes: TEXTS are Strings of the signs 0 .. 3, texts are
 * parsed by a list of tokens, questions are answered by sets and by trying all rows. It shares nothing with ReadAloud.
 */
final class Model {
    static final String[] TEXTS = new String[5461];
    static final Map<String, Integer> NUMBERS = new HashMap<>();

    static {
        int next = 0;
        TEXTS[next++] = "";
        for (int i = 0; next < TEXTS.length; i++) {
            for (int w = 0; w < 4; w++) {
                TEXTS[next++] = TEXTS[i] + w;
            }
        }
        for (int i = 0; i < TEXTS.length; i++) {
            NUMBERS.put(TEXTS[i], i);
        }
    }

    static int number(String text) {
        return NUMBERS.get(text);
    }

    static final class Book {
        String text = "";
        int[] kin = {0, 1, 2, 3};
        List<List<int[]>> readers = new ArrayList<>();
        Map<String, String>[] known;

        @SuppressWarnings("unchecked")
        String by(int r, String before) {
            if (known == null) {
                known = new Map[readers.size()];
                for (int i = 0; i < known.length; i++) {
                    known[i] = new HashMap<>();
                }
            }
            return known[r].computeIfAbsent(before, t -> slowly(r, t));
        }

        String slowly(int r, String before) {
            List<Character> row = new ArrayList<>();
            for (char c : before.toCharArray()) {
                row.add(c);
            }
            for (int[] step : readers.get(r)) {
                int k = step[1];
                if (step[0] == 0) {
                    for (int i = 0; i < row.size(); i++) {
                        if (row.get(i) == '0' + k) {
                            row.set(i, (char) ('0' + kin[k]));
                        }
                    }
                } else if (step[0] == 1 && k <= row.size()) {
                    row.remove(k - 1);
                } else if (step[0] == 2 && k <= row.size() && row.size() < 6) {
                    row.add(k, row.get(k - 1));
                } else if (step[0] == 3 && k + 1 <= row.size()) {
                    char c = row.get(k - 1);
                    row.set(k - 1, row.get(k));
                    row.set(k, c);
                } else if (step[0] == 4) {
                    List<Character> turned = new ArrayList<>();
                    for (char c : row) {
                        turned.add(0, c);
                    }
                    row = turned;
                }
            }
            StringBuilder made = new StringBuilder();
            for (char c : row) {
                made.append(c);
            }
            return made.toString();
        }
    }

    static final class Year {
        List<int[]> deeds = new ArrayList<>();
    }

    static final class Sight {
        List<Integer> behind = new ArrayList<>();
        List<String> texts = new ArrayList<>();
    }

    static final class Told {
        String tape = "";
        int fault = 0;
        int place = -1;
        List<Book> books = new ArrayList<>();
        List<Year> years = new ArrayList<>();
        List<Sight> sights = new ArrayList<>();

        Told copy() {
            Told t = new Told();
            t.tape = tape;
            t.fault = fault;
            t.place = place;
            t.books.addAll(books);
            t.years.addAll(years);
            t.sights.addAll(sights);
            return t;
        }

        List<?> sort(int sort) {
            return sort == 0 ? books : sort == 1 ? years : sights;
        }
    }

    Told told = new Told();
    Told[] images = new Told[3];

    int feed(int... numbers) {
        if (told.tape.length() + 20 > 600) {
            return -1;
        }
        StringBuilder s = new StringBuilder(told.tape);
        for (int n : numbers) {
            for (int i = 3; i >= 0; i--) {
                s.append((char) (n >>> 8 * i & 255));
            }
        }
        told.tape = s.toString();
        return told.tape.length();
    }

    int end(int n) {
        if (n < 0 || n > told.tape.length()) {
            return -1;
        }
        told.tape = told.tape.substring(0, n);
        return n;
    }

    // ---- texts

    record Token(String kind, String text, int place) {
        int value() {
            return Integer.parseInt(text);
        }
    }

    static List<Token> tokens(String tape) {
        List<Token> all = new ArrayList<>();
        java.util.regex.Matcher m = java.util.regex.Pattern.compile("[a-z]+|[0-9]+|;|[\n ]+|[^a-z0-9; \n]", java.util.regex.Pattern.DOTALL).matcher(tape);
        while (m.find()) {
            String t = m.group();
            char c = t.charAt(0);
            if (c == ' ' || c == '\n') {
                continue;
            }
            String kind = c >= 'a' && c <= 'z' ? "word" : c >= '0' && c <= '9' && t.length() <= 2 ? "number" : c == ';' ? ";" : "bad";
            all.add(new Token(kind, t, m.start()));
        }
        all.add(new Token("end", "", tape.length()));
        return all;
    }

    /** The lines of a text, or null with FAULT 1. */
    static List<List<Token>> lines(int sort, String tape, int[] fault) {
        Map<String, int[]> shapes = new HashMap<>();
        int any = 1000000;
        if (sort == 0) {
            shapes.put("text", new int[] {0, any});
            shapes.put("kin", new int[] {2, 2});
            shapes.put("reader", new int[] {0, 0});
            for (String s : "shift drop double swap".split(" ")) {
                shapes.put(s, new int[] {1, 1});
            }
            shapes.put("turn", new int[] {0, 0});
        } else if (sort == 1) {
            shapes.put("read", new int[] {2, 2});
            shapes.put("copy", new int[] {2, 2});
            for (String s : "seal restore hush".split(" ")) {
                shapes.put(s, new int[] {1, 1});
            }
            shapes.put("day", new int[] {0, 0});
        } else {
            shapes.put("seen", new int[] {1, any});
        }
        List<List<Token>> lines = new ArrayList<>();
        List<Token> line = new ArrayList<>();
        for (Token t : tokens(tape)) {
            boolean goesOn;
            if (line.isEmpty()) {
                goesOn = t.kind.equals("end") || t.kind.equals("word") && shapes.containsKey(t.text);
                line.add(t);
            } else {
                int[] shape = shapes.get(line.get(0).text);
                int numbers = line.size() - 1;
                if (t.kind.equals("number")) {
                    goesOn = numbers < shape[1];
                    line.add(t);
                } else {
                    goesOn = t.kind.equals(";") && numbers >= shape[0];
                    lines.add(line);
                    line = new ArrayList<>();
                }
            }
            if (!goesOn) {
                fault[0] = 1;
                fault[1] = t.place;
                return null;
            }
        }
        return lines;
    }

    static void note(TreeSet<Integer> faults, int place, int fault) {
        faults.add(place * 10 + fault);
    }

    static Object tell(int sort, String tape, int[] fault) {
        List<List<Token>> lines = lines(sort, tape, fault);
        if (lines == null) {
            return null;
        }
        TreeSet<Integer> faults = new TreeSet<>();
        Object made = sort == 0 ? tellBook(lines, faults) : sort == 1 ? tellYear(lines, faults) : tellSight(lines, faults);
        if (!faults.isEmpty()) {
            fault[0] = faults.first() % 10;
            fault[1] = faults.first() / 10;
            return null;
        }
        return made;
    }

    static String tellText(List<Token> words, TreeSet<Integer> faults) {
        StringBuilder s = new StringBuilder();
        for (int i = 0; i < words.size(); i++) {
            if (words.get(i).value() > 3) {
                note(faults, words.get(i).place, 2);
            }
            if (i >= 6) {
                note(faults, words.get(i).place, 3);
            }
            s.append(words.get(i).value());
        }
        return s.toString();
    }

    static Book tellBook(List<List<Token>> lines, TreeSet<Integer> faults) {
        Book b = new Book();
        List<String> steps = Arrays.asList("shift", "drop", "double", "swap", "turn");
        for (List<Token> line : lines) {
            Token head = line.get(0);
            List<Token> rest = line.subList(1, line.size());
            if (head.text.equals("text")) {
                b.text = tellText(rest, faults);
            } else if (head.text.equals("kin")) {
                for (Token t : rest) {
                    if (t.value() > 3) {
                        note(faults, t.place, 2);
                    }
                }
                if (rest.get(0).value() <= 3) {
                    b.kin[rest.get(0).value()] = rest.get(1).value();
                }
            } else if (head.text.equals("reader")) {
                b.readers.add(new ArrayList<>());
                if (b.readers.size() > 5) {
                    note(faults, head.place, 3);
                }
            } else {
                int kind = steps.indexOf(head.text);
                int value = rest.isEmpty() ? 0 : rest.get(0).value();
                if (kind == 0 && value > 3 || kind > 0 && kind < 4 && (value < 1 || value > 6)) {
                    note(faults, rest.get(0).place, 2);
                }
                if (b.readers.isEmpty()) {
                    note(faults, head.place, 4);
                } else {
                    List<int[]> his = b.readers.get(b.readers.size() - 1);
                    his.add(new int[] {kind, value});
                    if (his.size() > 4) {
                        note(faults, head.place, 3);
                    }
                }
            }
        }
        return b;
    }

    static Year tellYear(List<List<Token>> lines, TreeSet<Integer> faults) {
        Year y = new Year();
        List<String> kinds = Arrays.asList("read", "copy", "seal", "restore", "hush", "day");
        for (List<Token> line : lines) {
            int kind = kinds.indexOf(line.get(0).text);
            int[] deed = {kind, -1, -1};
            for (int i = 1; i < line.size(); i++) {
                deed[i] = line.get(i).value();
                if (deed[i] > (kind == 0 && i == 2 ? 4 : 3) || kind == 1 && i == 2 && deed[1] == deed[2]) {
                    note(faults, line.get(i).place, 2);
                }
            }
            y.deeds.add(deed);
            if (y.deeds.size() > 40) {
                note(faults, line.get(0).place, 3);
            }
        }
        return y;
    }

    static Sight tellSight(List<List<Token>> lines, TreeSet<Integer> faults) {
        Sight s = new Sight();
        for (List<Token> line : lines) {
            if (line.get(1).value() > 9) {
                note(faults, line.get(1).place, 2);
            }
            s.behind.add(line.get(1).value());
            s.texts.add(tellText(line.subList(2, line.size()), faults));
            if (s.behind.size() > 6) {
                note(faults, line.get(0).place, 3);
            }
        }
        return s;
    }

    @SuppressWarnings("unchecked")
    int text(int sort, int at) {
        String tape = told.tape;
        told.tape = "";
        told.fault = 0;
        told.place = -1;
        if (sort < 0 || sort > 2) {
            return -2;
        }
        List<Object> all = (List<Object>) told.sort(sort);
        if (at == -1 && all.size() == 2 || at != -1 && (at < 0 || at >= all.size())) {
            return -2;
        }
        int[] fault = {0, -1};
        Object made = tell(sort, tape, fault);
        told.fault = fault[0];
        told.place = fault[1];
        if (made == null) {
            return -1;
        }
        if (at == -1) {
            all.add(made);
            return all.size() - 1;
        }
        all.set(at, made);
        return at;
    }

    int fault(int what) {
        return what == 0 ? told.fault : what == 1 ? told.place : -1;
    }

    Book b(int book) {
        return book >= 0 && book < told.books.size() ? told.books.get(book) : null;
    }

    Year y(int year) {
        return year >= 0 && year < told.years.size() ? told.years.get(year) : null;
    }

    Sight s(int sight) {
        return sight >= 0 && sight < told.sights.size() ? told.sights.get(sight) : null;
    }

    static String t(int number) {
        return number >= 0 && number < 5461 ? TEXTS[number] : null;
    }

    int book(int book, int what) {
        Book b = b(book);
        if (b == null) {
            return -1;
        }
        Map<Integer, Integer> answers = new HashMap<>();
        answers.put(0, number(b.text));
        answers.put(1, b.readers.size());
        for (int w = 0; w < 4; w++) {
            answers.put(10 + w, b.kin[w]);
        }
        for (int r = 0; r < b.readers.size(); r++) {
            answers.put(20 + r, b.readers.get(r).size());
            for (int k = 0; k < b.readers.get(r).size(); k++) {
                answers.put(30 + 10 * r + 2 * k, b.readers.get(r).get(k)[0]);
                answers.put(30 + 10 * r + 2 * k + 1, b.readers.get(r).get(k)[1]);
            }
        }
        return answers.getOrDefault(what, -1);
    }

    int word(int number, int k) {
        String t = t(number);
        if (t == null || k < -1 || k >= t.length()) {
            return -1;
        }
        return k == -1 ? t.length() : t.charAt(k) - '0';
    }

    static int far(String a, String b) {
        int[][] d = new int[a.length() + 1][b.length() + 1];
        for (int i = 0; i <= a.length(); i++) {
            for (int j = 0; j <= b.length(); j++) {
                if (i == 0 || j == 0) {
                    d[i][j] = i + j;
                } else {
                    d[i][j] = Math.min(Math.min(d[i - 1][j], d[i][j - 1]) + 1,
                        d[i - 1][j - 1] + (a.charAt(i - 1) == b.charAt(j - 1) ? 0 : 1));
                }
            }
        }
        return d[a.length()][b.length()];
    }

    int drift(int one, int other) {
        return t(one) == null || t(other) == null ? -1 : far(t(one), t(other));
    }

    int read(int book, int number, int reader) {
        Book b = b(book);
        if (b == null || t(number) == null || reader < 0 || reader >= b.readers.size()) {
            return -1;
        }
        return number(b.by(reader, t(number)));
    }

    int deed(int year, int k, int what) {
        Year y = y(year);
        if (y == null) {
            return -2;
        }
        if (k == -1 && what == 0) {
            return y.deeds.size();
        }
        if (k < 0 || k >= y.deeds.size() || what < 0 || what > 2) {
            return -2;
        }
        return y.deeds.get(k)[what];
    }

    static final class State {
        Book b;
        int day = 0;
        int sealed = 0;
        String[] copies = new String[4];
        boolean[] hushed = new boolean[4];
        int[] reads;

        State(Book b) {
            this.b = b;
            Arrays.fill(copies, b.text);
            reads = new int[b.readers.size()];
        }

        boolean act(int[] deed) {
            int one = deed[1];
            int other = deed[2];
            switch (deed[0]) {
                case 0:
                    if (other >= reads.length) {
                        return false;
                    }
                    reads[other]++;
                    if (!hushed[one]) {
                        copies[one] = b.by(other, copies[one]);
                    }
                    hushed[one] = false;
                    return true;
                case 1:
                    copies[other] = copies[one];
                    return true;
                case 2:
                    sealed = one;
                    return true;
                case 3:
                    if (one == sealed) {
                        return false;
                    }
                    copies[one] = b.text;
                    return true;
                case 4:
                    if (hushed[one]) {
                        return false;
                    }
                    hushed[one] = true;
                    return true;
                default:
                    day++;
                    return true;
            }
        }

        int ask(int what) {
            int suits = 0;
            int against = 0;
            int bits = 0;
            for (int c = 0; c < 4; c++) {
                suits += copies[c].equals(copies[sealed]) ? 0 : 1;
                bits += hushed[c] ? 1 << c : 0;
                if (far(copies[c], b.text) > far(copies[against], b.text)) {
                    against = c;
                }
            }
            int[] plain = {day, sealed, suits, against, far(copies[against], b.text), bits};
            if (what >= 0 && what <= 5) {
                return plain[what];
            }
            if (what >= 10 && what <= 13) {
                return number(copies[what - 10]);
            }
            return what >= 20 && what < 20 + reads.length ? reads[what - 20] : -2;
        }
    }

    int stop(int book, int year) {
        Book b = b(book);
        Year y = y(year);
        if (b == null || y == null) {
            return -1;
        }
        State s = new State(b);
        int k = 0;
        while (k < y.deeds.size() && s.act(y.deeds.get(k))) {
            k++;
        }
        return k;
    }

    int state(int book, int year, int n, int what) {
        int stop = stop(book, year);
        if (stop == -1 || n < 0 || n > stop) {
            return -2;
        }
        State s = new State(b(book));
        for (int k = 0; k < n; k++) {
            s.act(y(year).deeds.get(k));
        }
        return s.ask(what);
    }

    // ---- ways

    static Map<String, Integer> ways(Book b, String from, int readers) {
        Map<String, Integer> d = new HashMap<>();
        ArrayDeque<String> queue = new ArrayDeque<>();
        d.put(from, 0);
        queue.add(from);
        while (!queue.isEmpty()) {
            String t = queue.poll();
            for (int r = 0; r < b.readers.size(); r++) {
                String u = b.by(r, t);
                if ((readers >> r & 1) != 0 && !d.containsKey(u)) {
                    d.put(u, d.get(t) + 1);
                    queue.add(u);
                }
            }
        }
        return d;
    }

    int making(int book, int from, int to, int k) {
        Book b = b(book);
        if (b == null || t(from) == null || t(to) == null) {
            return -1;
        }
        Map<String, Integer> d = ways(b, t(from), -1);
        if (!d.containsKey(t(to))) {
            return -1;
        }
        int needed = d.get(t(to));
        if (k == -1) {
            return needed;
        }
        if (k < 0 || k >= needed) {
            return -1;
        }
        // The first row: at each reading the least READER from whom the goal is still in time.
        String at = t(from);
        for (int i = 0; ; i++) {
            int chosen = -1;
            for (int r = 0; r < b.readers.size() && chosen == -1; r++) {
                Integer left = ways(b, b.by(r, at), -1).get(t(to));
                if (left != null && left == needed - i - 1) {
                    chosen = r;
                }
            }
            if (i == k) {
                return chosen;
            }
            at = b.by(chosen, at);
        }
    }

    int ring(int book, int number) {
        Book b = b(book);
        if (b == null || t(number) == null) {
            return -1;
        }
        int best = -1;
        for (int r = 0; r < b.readers.size(); r++) {
            Integer d = ways(b, b.by(r, t(number)), -1).get(t(number));
            if (d != null && (best == -1 || d + 1 < best)) {
                best = d + 1;
            }
        }
        return best;
    }

    int reach(int book, int number, boolean most) {
        Book b = b(book);
        if (b == null || t(number) == null) {
            return -1;
        }
        Map<String, Integer> d = ways(b, t(number), -1);
        return most ? d.values().stream().mapToInt(i -> i).max().getAsInt() : d.size();
    }

    static boolean have(Book b, int bits) {
        for (int r = 0; r < 32; r++) {
            if ((bits >>> r & 1) != 0 && r >= b.readers.size()) {
                return false;
            }
        }
        return true;
    }

    static boolean stays(Book b, String t, int readers) {
        for (int r = 0; r < b.readers.size(); r++) {
            if ((readers >> r & 1) != 0 && !b.by(r, t).equals(t)) {
                return false;
            }
        }
        return true;
    }

    int sound(int book, int readers) {
        Book b = b(book);
        if (b == null || !have(b, readers)) {
            return -1;
        }
        int many = 0;
        for (String t : TEXTS) {
            many += stays(b, t, readers) ? 1 : 0;
        }
        return many;
    }

    int like(int book, int a, int c) {
        Book b = b(book);
        if (b == null || a < 0 || c < 0 || a >= b.readers.size() || c >= b.readers.size()) {
            return -1;
        }
        int many = 0;
        for (String t : TEXTS) {
            many += b.by(a, b.by(c, t)).equals(b.by(c, b.by(a, t))) ? 1 : 0;
        }
        return many;
    }

    int orbits(int book, int reader, int what) {
        Book b = b(book);
        if (b == null || reader < 0 || reader >= b.readers.size() || what < 0 || what > 5) {
            return -1;
        }
        int longest = 0;
        int in = 0;
        int until = 0;
        int stay = 0;
        Set<String> made = new HashSet<>();
        Set<String> leasts = new HashSet<>();
        for (String t : TEXTS) {
            String u = b.by(reader, t);
            made.add(u);
            stay += u.equals(t) ? 1 : 0;
            List<String> row = new ArrayList<>();
            String at = t;
            while (!row.contains(at)) {
                row.add(at);
                at = b.by(reader, at);
            }
            int tail = row.indexOf(at);
            until = Math.max(until, tail);
            in += tail == 0 ? 1 : 0;
            longest = Math.max(longest, row.size() - tail);
            leasts.add(new TreeSet<>(row.subList(tail, row.size())).first());
        }
        return new int[] {leasts.size(), longest, in, until, 5461 - made.size(), stay}[what];
    }

    // ---- rows of READERS, all of them

    static List<int[]> rows(int readers, int n) {
        List<int[]> all = new ArrayList<>();
        all.add(new int[0]);
        for (int i = 0; i < n; i++) {
            List<int[]> longer = new ArrayList<>();
            for (int[] row : all) {
                for (int r = 0; r < readers; r++) {
                    int[] one = Arrays.copyOf(row, i + 1);
                    one[i] = r;
                    longer.add(one);
                }
            }
            all = longer;
        }
        return all;
    }

    static List<String> told(Book b, int[] row) {
        List<String> all = new ArrayList<>();
        String t = b.text;
        all.add(t);
        for (int r : row) {
            t = b.by(r, t);
            all.add(t);
        }
        return all;
    }

    int rota(int book, int n, int what) {
        Book b = b(book);
        if (b == null || n < 0 || n > 9 || b.readers.isEmpty() && n > 0) {
            return -1;
        }
        int least = 99;
        int most = -1;
        int[] first = null;
        for (int[] row : rows(b.readers.size(), n)) {
            int d = far(told(b, row).get(n), b.text);
            if (d < least) {
                least = d;
                first = row;
            }
            most = Math.max(most, d);
        }
        if (what == 0 || what == 1) {
            return what == 0 ? least : most;
        }
        return what >= 10 && what < 10 + n ? first[what - 10] : -1;
    }

    long mean(int book, int n, boolean under) {
        Book b = b(book);
        if (b == null || n < 0 || n > 9 || b.readers.isEmpty() && n > 0) {
            return -1;
        }
        long sum = 0;
        long many = 0;
        for (int[] row : rows(b.readers.size(), n)) {
            sum += far(told(b, row).get(n), b.text);
            many++;
        }
        long g = BigInteger.valueOf(sum).gcd(BigInteger.valueOf(many)).longValue();
        return under ? many / g : sum / g;
    }

    int elders(int book, int number, int n, boolean least) {
        Book b = b(book);
        if (b == null || t(number) == null || n < 0 || n > 9) {
            return -2;
        }
        Set<String> now = new HashSet<>();
        now.add(t(number));
        for (int i = 0; i < n; i++) {
            Set<String> before = new HashSet<>();
            for (String t : TEXTS) {
                for (int r = 0; r < b.readers.size(); r++) {
                    if (now.contains(b.by(r, t))) {
                        before.add(t);
                    }
                }
            }
            now = before;
        }
        return least ? least(now) : now.size();
    }

    static int least(Set<String> texts) {
        return texts.stream().mapToInt(Model::number).min().orElse(-1);
    }

    static int times(String t, int word) {
        int many = 0;
        for (char c : t.toCharArray()) {
            many += c == '0' + word ? 1 : 0;
        }
        return many;
    }

    static int best(Book b, String t, int left, int word, int mine, int his, boolean most) {
        if (left == 0) {
            return times(t, word);
        }
        int best = -1;
        for (int r = 0; r < b.readers.size(); r++) {
            if ((mine >> r & 1) != 0) {
                int v = best(b, b.by(r, t), left - 1, word, his, mine, !most);
                best = best == -1 ? v : most ? Math.max(best, v) : Math.min(best, v);
            }
        }
        return best;
    }

    int play(int book, int n, int word, int first, int second, boolean begins) {
        Book b = b(book);
        if (b == null || n < 0 || n > 9 || word < 0 || word > 3 || !have(b, first) || !have(b, second)) {
            return -1;
        }
        if (first == 0 || second == 0 && n != 1) {
            return -1;
        }
        int best = best(b, b.text, n, word, first, second, true);
        if (!begins) {
            return best;
        }
        for (int r = 0; r < b.readers.size() && n > 0; r++) {
            if ((first >> r & 1) != 0 && best(b, b.by(r, b.text), n - 1, word, second, first, false) == best) {
                return r;
            }
        }
        return -1;
    }

    int fact(int sight, int k, int what) {
        Sight s = s(sight);
        if (s == null) {
            return -2;
        }
        if (k == -1 && what == 0) {
            return s.behind.size();
        }
        if (k < 0 || k >= s.behind.size() || what < 0 || what > 1) {
            return -2;
        }
        return what == 0 ? s.behind.get(k) : number(s.texts.get(k));
    }

    List<int[]> fitting(Book b, Sight s, int n) {
        List<int[]> fit = new ArrayList<>();
        for (int[] row : rows(b.readers.size(), n)) {
            List<String> told = told(b, row);
            boolean so = true;
            for (int k = 0; k < s.behind.size(); k++) {
                so &= s.behind.get(k) > n || told.get(s.behind.get(k)).equals(s.texts.get(k));
            }
            if (so) {
                fit.add(row);
            }
        }
        return fit;
    }

    int fits(int book, int sight, int n, int number) {
        Book b = b(book);
        Sight s = s(sight);
        if (b == null || s == null || n < 0 || n > 9 || number != -1 && t(number) == null) {
            return -1;
        }
        int many = 0;
        for (int[] row : fitting(b, s, n)) {
            many += number == -1 || told(b, row).get(n).equals(t(number)) ? 1 : 0;
        }
        return many;
    }

    int sure(int book, int sight, int n, int k) {
        Book b = b(book);
        Sight s = s(sight);
        if (b == null || s == null || n < 0 || n > 9 || k < -1 || k >= n && k != -1) {
            return -1;
        }
        List<int[]> fit = fitting(b, s, n);
        if (fit.isEmpty()) {
            return -1;
        }
        if (k >= 0) {
            for (int[] row : fit) {
                if (row[k] != fit.get(0)[k]) {
                    return -1;
                }
            }
            return fit.get(0)[k];
        }
        int look = -1;
        int least = Integer.MAX_VALUE;
        for (int i = 0; i <= n; i++) {
            Map<String, Integer> many = new HashMap<>();
            for (int[] row : fit) {
                many.merge(told(b, row).get(i), 1, Integer::sum);
            }
            int most = many.values().stream().mapToInt(v -> v).max().getAsInt();
            if (most < least) {
                least = most;
                look = i;
            }
        }
        return look;
    }

    private int x;

    private int below(int n) {
        x = (int) (x * 1103515245L + 12345L);
        return (int) (((x & 0xffffffffL) >> 16) % n);
    }

    int drawn(int book, int seed, int n, int what) {
        Book b = b(book);
        if (b == null || n < 0 || n > 60) {
            return -2;
        }
        State s = new State(b);
        x = seed;
        for (int i = 0; i < n; i++) {
            int copy = below(4);
            int which = below(8);
            if (which < 5) {
                if (!b.readers.isEmpty()) {
                    s.act(new int[] {0, copy, below(b.readers.size())});
                }
            } else if (which == 5) {
                int to = below(4);
                if (to != copy) {
                    s.act(new int[] {1, copy, to});
                }
            } else if (which == 6) {
                s.act(new int[] {4, copy, -1});
            } else {
                s.act(new int[] {5, -1, -1});
            }
        }
        return s.ask(what);
    }

    int kinship(int book, int word, boolean ring) {
        Book b = b(book);
        if (b == null || word < 0 || word > 3) {
            return -1;
        }
        List<Integer> row = new ArrayList<>();
        int at = word;
        while (!row.contains(at)) {
            row.add(at);
            at = b.kin[at];
        }
        int tail = row.indexOf(at);
        return ring ? row.size() - tail : tail;
    }

    static Set<String> left(String t) {
        Set<String> all = new HashSet<>();
        all.add("");
        for (char c : t.toCharArray()) {
            for (String s : new ArrayList<>(all)) {
                all.add(s + c);
            }
        }
        return all;
    }

    int shared(int one, int other, boolean number) {
        if (t(one) == null || t(other) == null) {
            return -1;
        }
        Set<String> both = left(t(one));
        both.retainAll(left(t(other)));
        int most = both.stream().mapToInt(String::length).max().getAsInt();
        both.removeIf(s -> s.length() < most);
        return number ? least(both) : most;
    }

    int joined(int book, int one, int other, boolean number) {
        Book b = b(book);
        if (b == null || t(one) == null || t(other) == null) {
            return -1;
        }
        Map<String, Integer> d = ways(b, t(one), -1);
        Map<String, Integer> e = ways(b, t(other), -1);
        int fewest = -1;
        int least = -1;
        for (int i = 0; i < 5461; i++) {
            if (d.containsKey(t(i)) && e.containsKey(t(i))) {
                int sum = d.get(t(i)) + e.get(t(i));
                if (fewest == -1 || sum < fewest) {
                    fewest = sum;
                    least = i;
                }
            }
        }
        return number ? least : fewest;
    }

    int nearest(int book, int from, int to, boolean number) {
        Book b = b(book);
        if (b == null || t(from) == null || t(to) == null) {
            return -1;
        }
        int least = 99;
        int which = -1;
        for (int i : ways(b, t(from), -1).keySet().stream().mapToInt(Model::number).sorted().toArray()) {
            if (far(t(i), t(to)) < least) {
                least = far(t(i), t(to));
                which = i;
            }
        }
        return number ? which : least;
    }

    int settles(int book, int number, boolean which) {
        Book b = b(book);
        if (b == null || t(number) == null) {
            return -1;
        }
        Map<String, Integer> d = ways(b, t(number), -1);
        int fewest = -1;
        int least = -1;
        for (int i = 0; i < 5461; i++) {
            if (d.containsKey(t(i)) && stays(b, t(i), -1) && (fewest == -1 || d.get(t(i)) < fewest)) {
                fewest = d.get(t(i));
                least = i;
            }
        }
        return which ? least : fewest;
    }

    int unmade(int book, boolean least) {
        Book b = b(book);
        if (b == null) {
            return -2;
        }
        Set<String> left = new HashSet<>(Arrays.asList(TEXTS));
        for (String t : TEXTS) {
            for (int r = 0; r < b.readers.size(); r++) {
                left.remove(b.by(r, t));
            }
        }
        return least ? least(left) : left.size();
    }

    int silenced(int book, int from, int to) {
        Book b = b(book);
        if (b == null || t(from) == null || t(to) == null || from == to) {
            return -1;
        }
        int best = -1;
        for (int bits = 0; bits < 1 << b.readers.size(); bits++) {
            if (!ways(b, t(from), ~bits).containsKey(t(to)) && (best == -1 || Integer.bitCount(bits) < Integer.bitCount(best))) {
                best = bits;
            }
        }
        return best;
    }

    /** By two sweeps of depth first search, the second one backwards. */
    int circles(int book, int number) {
        Book b = b(book);
        if (b == null || number < -2 || number > 5460) {
            return -1;
        }
        List<List<Integer>> back = new ArrayList<>();
        int[][] next = new int[5461][b.readers.size()];
        for (int i = 0; i < 5461; i++) {
            back.add(new ArrayList<>());
        }
        for (int i = 0; i < 5461; i++) {
            for (int r = 0; r < b.readers.size(); r++) {
                next[i][r] = number(b.by(r, t(i)));
                back.get(next[i][r]).add(i);
            }
        }
        List<Integer> left = new ArrayList<>();
        boolean[] seen = new boolean[5461];
        for (int i = 0; i < 5461; i++) {
            ArrayDeque<int[]> stack = new ArrayDeque<>();
            if (!seen[i]) {
                seen[i] = true;
                stack.push(new int[] {i, 0});
            }
            while (!stack.isEmpty()) {
                int[] top = stack.peek();
                if (top[1] == b.readers.size()) {
                    left.add(stack.pop()[0]);
                } else {
                    int u = next[top[0]][top[1]++];
                    if (!seen[u]) {
                        seen[u] = true;
                        stack.push(new int[] {u, 0});
                    }
                }
            }
        }
        int[] of = new int[5461];
        Arrays.fill(of, -1);
        List<Integer> sizes = new ArrayList<>();
        for (int k = 5460; k >= 0; k--) {
            if (of[left.get(k)] == -1) {
                ArrayDeque<Integer> queue = new ArrayDeque<>();
                queue.add(left.get(k));
                of[left.get(k)] = sizes.size();
                int size = 0;
                while (!queue.isEmpty()) {
                    int t = queue.poll();
                    size++;
                    for (int u : back.get(t)) {
                        if (of[u] == -1) {
                            of[u] = sizes.size();
                            queue.add(u);
                        }
                    }
                }
                sizes.add(size);
            }
        }
        if (number == -1) {
            return sizes.size();
        }
        return number == -2 ? sizes.stream().mapToInt(v -> v).max().getAsInt() : sizes.get(of[number]);
    }

    int count(int sort) {
        return sort < 0 || sort > 2 ? -2 : told.sort(sort).size();
    }

    boolean image(int k) {
        if (k < 0 || k > 2) {
            return false;
        }
        images[k] = told.copy();
        return true;
    }

    boolean again(int k) {
        if (k < 0 || k > 2 || images[k] == null) {
            return false;
        }
        told = images[k].copy();
        return true;
    }
}
