import java.util.Arrays;

/** Books that are changed by reading aloud, as the document tells them; README.md says how to use it. */
public final class ReadAloud {
    public static final int NONE = -1;

    private static final int NO_SUCH = -2;
    private static final int TEXTS = 5461;
    private static final int WORDS = 4;
    private static final int LONGEST = 6;
    private static final int MOST_OF_SORT = 2;
    private static final int SORTS = 3;
    private static final int MOST_READERS = 5;
    private static final int MOST_STEPS = 4;
    private static final int MOST_DEEDS = 40;
    private static final int MOST_FACTS = 6;
    private static final int MOST_READINGS = 9;
    private static final int MOST_DRAWN = 60;
    private static final int COPIES = 4;
    private static final int TAPE = 600;
    private static final int FED = 20;
    private static final int IMAGES = 3;

    private final Told told = new Told();
    private final Told[] images = new Told[IMAGES];
    private final Teller teller = new Teller();
    private final Course course = new Course();
    // The wide rows are made by the first call that needs them: an object that is asked little stays small.
    private final Readings[] readings = new Readings[MOST_OF_SORT];
    private final Walk[] walks = new Walk[2];
    private Levels levels = null;
    private Rings rings = null;

    public ReadAloud() {
    }

    public int feed(int a, int b, int c, int d, int e) {
        if (told.length > TAPE - FED) {
            return NONE;
        }
        told.putBytes(a);
        told.putBytes(b);
        told.putBytes(c);
        told.putBytes(d);
        told.putBytes(e);
        return told.length;
    }

    public int end(int n) {
        if (n < 0 || n > told.length) {
            return NONE;
        }
        told.length = n;
        return n;
    }

    public int text(int sort, int at) {
        int length = told.length;
        told.length = 0;
        told.fault = 0;
        told.place = NONE;
        if (sort < 0 || sort >= SORTS) {
            return NO_SUCH;
        }
        int there = told.counts[sort];
        if (at == NONE ? there >= MOST_OF_SORT : at < 0 || at >= there) {
            return NO_SUCH;
        }
        int number = at == NONE ? there : at;
        if (!tellInto(sort, number, length)) {
            told.fault = teller.fault;
            told.place = teller.place;
            return NONE;
        }
        told.counts[sort] = Math.max(there, number + 1);
        return number;
    }

    public int fault(int what) {
        switch (what) {
            case 0: return told.fault;
            case 1: return told.place;
            default: return NONE;
        }
    }

    public int book(int book, int what) {
        Book of = bookAt(book);
        return of == null ? NONE : of.tells(what);
    }

    public int word(int number, int k) {
        if (!isText(number)) {
            return NONE;
        }
        int length = lengthOf(number);
        if (k == NONE) {
            return length;
        }
        return k < 0 || k >= length ? NONE : wordAt(number, k);
    }

    public int drift(int one, int other) {
        return isText(one) && isText(other) ? driftOf(one, other) : NONE;
    }

    public int read(int book, int number, int reader) {
        Book of = bookAt(book);
        if (of == null || !isText(number) || !of.hasReader(reader)) {
            return NONE;
        }
        return of.readBy(reader, number);
    }

    public int deed(int year, int k, int what) {
        Year of = yearAt(year);
        return of == null ? NO_SUCH : of.tells(k, what);
    }

    public int stop(int book, int year) {
        Book of = bookAt(book);
        Year by = yearAt(year);
        if (of == null || by == null) {
            return NONE;
        }
        course.begin(of);
        return course.doFirst(by, by.deeds);
    }

    public int state(int book, int year, int n, int what) {
        Book of = bookAt(book);
        Year by = yearAt(year);
        if (of == null || by == null || n < 0 || n > by.deeds) {
            return NO_SUCH;
        }
        course.begin(of);
        return course.doFirst(by, n) < n ? NO_SUCH : course.tells(what);
    }

    public int making(int book, int from, int to, int k) {
        Readings by = readingsAt(book);
        if (by == null || !isText(from) || !isText(to)) {
            return NONE;
        }
        Walk walk = walkAt(0);
        walk.go(by, from, by.all(), to);
        int needed = walk.needed[to];
        if (k == NONE || needed == NONE) {
            return needed;
        }
        return k < 0 || k >= needed ? NONE : walk.readerOnWay(to, k);
    }

    public int ring(int book, int number) {
        Readings by = readingsAt(book);
        if (by == null || !isText(number)) {
            return NONE;
        }
        Walk walk = walkAt(0);
        walk.go(by, number, by.all(), NONE);
        return walk.wayBack(by, number);
    }

    public int reach(int book, int number, boolean most) {
        Readings by = readingsAt(book);
        if (by == null || !isText(number)) {
            return NONE;
        }
        Walk walk = walkAt(0);
        walk.go(by, number, by.all(), NONE);
        return most ? walk.farthest() : walk.size;
    }

    public int sound(int book, int readers) {
        Readings by = readingsAt(book);
        return by == null || !by.book.hasReaders(readers) ? NONE : by.unchangedBy(readers);
    }

    public int like(int book, int a, int b) {
        Readings by = readingsAt(book);
        if (by == null || !by.book.hasReader(a) || !by.book.hasReader(b)) {
            return NONE;
        }
        return by.alikeEitherWay(a, b);
    }

    public int orbits(int book, int reader, int what) {
        Readings by = readingsAt(book);
        if (by == null || !by.book.hasReader(reader) || what < 0 || what >= Rings.ANSWERS) {
            return NONE;
        }
        Rings in = ringsThere();
        in.findOrbits(by, reader);
        return in.answers[what];
    }

    public int rota(int book, int n, int what) {
        Readings by = readingsAt(book);
        if (by == null || !isSpan(n) || n > 0 && by.all() == 0) {
            return NONE;
        }
        boolean row = what >= 10 && what < 10 + n;
        if (what != 0 && what != 1 && !row) {
            return NONE;
        }
        Levels over = levelsThere();
        over.wantNothing();
        over.spread(by, n, by.all(), by.all());
        over.endByDrift();
        if (!row) {
            return over.bestEnd(what == 1);
        }
        over.foldBack(Levels.LEAST, Levels.LEAST);
        return over.chosenAt(what - 10);
    }

    public long mean(int book, int n, boolean under) {
        Readings by = readingsAt(book);
        if (by == null || !isSpan(n) || n > 0 && by.all() == 0) {
            return NONE;
        }
        Levels over = levelsThere();
        over.wantNothing();
        over.spread(by, n, by.all(), by.all());
        over.endByDrift();
        long sum = over.sumOfEnds();
        long rows = over.rows();
        long shared = common(sum, rows);
        if (shared == 0) {
            return NONE;
        }
        return under ? rows / shared : sum / shared;
    }

    public int elders(int book, int number, int n, boolean least) {
        Readings by = readingsAt(book);
        if (by == null || !isText(number) || !isSpan(n)) {
            return NO_SUCH;
        }
        by.goBack(number, n);
        return least ? by.leastMarked() : by.marked();
    }

    public int play(int book, int n, int word, int first, int second, boolean begins) {
        Readings by = readingsAt(book);
        if (by == null || !isSpan(n) || !isWord(word)) {
            return NONE;
        }
        if (!by.book.hasReaders(first) || !by.book.hasReaders(second)) {
            return NONE;
        }
        if (first == 0 || second == 0 && n != 1 || begins && n == 0) {
            return NONE;
        }
        Levels over = levelsThere();
        over.wantNothing();
        over.spread(by, n, first, second);
        over.endByWord(word);
        over.foldBack(Levels.MOST, Levels.LEAST);
        return begins ? over.chosenAt(0) : over.bestStart();
    }

    public int fact(int sight, int k, int what) {
        Sight of = sightAt(sight);
        return of == null ? NO_SUCH : of.tells(k, what);
    }

    public int fits(int book, int sight, int n, int number) {
        Readings by = readingsAt(book);
        Sight seen = sightAt(sight);
        if (by == null || seen == null || !isSpan(n) || number != NONE && !isText(number)) {
            return NONE;
        }
        Levels over = levelsThere();
        over.want(seen);
        over.spread(by, n, by.all(), by.all());
        return number == NONE ? over.rows() : over.rowsTo(number);
    }

    public int sure(int book, int sight, int n, int k) {
        Readings by = readingsAt(book);
        Sight seen = sightAt(sight);
        if (by == null || seen == null || !isSpan(n) || k < NONE || k >= n && k != NONE) {
            return NONE;
        }
        Levels over = levelsThere();
        over.want(seen);
        over.spread(by, n, by.all(), by.all());
        if (over.rows() == 0) {
            return NONE;
        }
        over.endByOne();
        over.foldBack(Levels.SUM, Levels.SUM);
        return k == NONE ? over.look() : over.onlyReaderAt(k);
    }

    public int drawn(int book, int seed, int n, int what) {
        Book of = bookAt(book);
        if (of == null || n < 0 || n > MOST_DRAWN) {
            return NO_SUCH;
        }
        course.begin(of);
        course.draw(seed, n);
        return course.tells(what);
    }

    public int kinship(int book, int word, boolean ring) {
        Book of = bookAt(book);
        if (of == null || !isWord(word)) {
            return NONE;
        }
        return ring ? of.kinRing(word) : of.kinUntilRing(word);
    }

    public int shared(int one, int other, boolean number) {
        if (!isText(one) || !isText(other)) {
            return NONE;
        }
        int most = mostShared(one, other);
        return number ? most : lengthOf(most);
    }

    public int joined(int book, int one, int other, boolean number) {
        Readings by = readingsAt(book);
        if (by == null || !isText(one) || !isText(other)) {
            return NONE;
        }
        Walk first = walkAt(0);
        Walk second = walkAt(1);
        first.go(by, one, by.all(), NONE);
        second.go(by, other, by.all(), NONE);
        int meeting = first.meeting(second);
        if (number || meeting == NONE) {
            return meeting;
        }
        return first.needed[meeting] + second.needed[meeting];
    }

    public int nearest(int book, int from, int to, boolean number) {
        Readings by = readingsAt(book);
        if (by == null || !isText(from) || !isText(to)) {
            return NONE;
        }
        Walk walk = walkAt(0);
        walk.go(by, from, by.all(), NONE);
        int near = walk.nearestTo(to);
        return number ? near : driftOf(near, to);
    }

    public int settles(int book, int number, boolean which) {
        Readings by = readingsAt(book);
        if (by == null || !isText(number)) {
            return NONE;
        }
        Walk walk = walkAt(0);
        walk.go(by, number, by.all(), NONE);
        int settled = walk.firstSettled(by);
        return which || settled == NONE ? settled : walk.needed[settled];
    }

    public int unmade(int book, boolean least) {
        Readings by = readingsAt(book);
        if (by == null) {
            return NO_SUCH;
        }
        by.markUnmade();
        return least ? by.leastMarked() : by.marked();
    }

    public int silenced(int book, int from, int to) {
        Readings by = readingsAt(book);
        if (by == null || !isText(from) || !isText(to) || from == to) {
            return NONE;
        }
        Walk walk = walkAt(0);
        int readers = by.book.readers;
        for (int many = 0; many <= readers; many++) {
            for (int without = 0; without <= by.all(); without++) {
                if (Integer.bitCount(without) == many) {
                    walk.go(by, from, by.all() & ~without, to);
                    if (walk.needed[to] == NONE) {
                        return without;
                    }
                }
            }
        }
        return NONE;
    }

    public int circles(int book, int number) {
        Readings by = readingsAt(book);
        if (by == null || number != NONE && number != NO_SUCH && !isText(number)) {
            return NONE;
        }
        Rings in = ringsThere();
        in.findCircles(by);
        if (number == NONE) {
            return in.circles;
        }
        return number == NO_SUCH ? in.largest : in.sizeOf[number];
    }

    public int count(int sort) {
        return sort < 0 || sort >= SORTS ? NO_SUCH : told.counts[sort];
    }

    public boolean image(int k) {
        if (k < 0 || k >= IMAGES) {
            return false;
        }
        if (images[k] == null) {
            images[k] = new Told();
        }
        images[k].becomes(told);
        return true;
    }

    public boolean again(int k) {
        if (k < 0 || k >= IMAGES || images[k] == null) {
            return false;
        }
        told.becomes(images[k]);
        return true;
    }

    private boolean tellInto(int sort, int number, int length) {
        switch (sort) {
            case 0:
                Book book = new Book();
                if (teller.tell(told.tape, length, book)) {
                    told.books[number] = book;
                    return true;
                }
                return false;
            case 1:
                Year year = new Year();
                if (teller.tell(told.tape, length, year)) {
                    told.years[number] = year;
                    return true;
                }
                return false;
            default:
                Sight sight = new Sight();
                if (teller.tell(told.tape, length, sight)) {
                    told.sights[number] = sight;
                    return true;
                }
                return false;
        }
    }

    private Book bookAt(int book) {
        return book < 0 || book >= told.counts[0] ? null : told.books[book];
    }

    private Year yearAt(int year) {
        return year < 0 || year >= told.counts[1] ? null : told.years[year];
    }

    private Sight sightAt(int sight) {
        return sight < 0 || sight >= told.counts[2] ? null : told.sights[sight];
    }

    private Readings readingsAt(int book) {
        Book of = bookAt(book);
        if (of == null) {
            return null;
        }
        if (readings[book] == null) {
            readings[book] = new Readings();
        }
        readings[book].takeUp(of);
        return readings[book];
    }

    private Walk walkAt(int which) {
        if (walks[which] == null) {
            walks[which] = new Walk();
        }
        return walks[which];
    }

    private Levels levelsThere() {
        if (levels == null) {
            levels = new Levels();
        }
        return levels;
    }

    private Rings ringsThere() {
        if (rings == null) {
            rings = new Rings();
        }
        return rings;
    }

    private static boolean isText(int number) {
        return number >= 0 && number < TEXTS;
    }

    private static boolean isWord(int word) {
        return word >= 0 && word < WORDS;
    }

    private static boolean isSpan(int n) {
        return n >= 0 && n <= MOST_READINGS;
    }

    private static boolean isIn(int bits, int k) {
        return (bits >> k & 1) != 0;
    }

    /** The greatest common divisor; both are below 2 to the 32nd, so that 100 rounds are more than enough. */
    private static long common(long one, long other) {
        long a = one;
        long b = other;
        for (int i = 0; i < 100 && b != 0; i++) {
            long rest = a % b;
            a = b;
            b = rest;
        }
        return a;
    }

    // TEXTS by their NUMBERS. A TEXT with a WORD w behind it has the NUMBER 4 * NUMBER + 1 + w. As bits, a TEXT is a
    // leading 1 and two bits for each WORD: so it can be cut and joined by shifts, and no row is made for it.

    private static int longer(int number, int word) {
        return WORDS * number + 1 + word;
    }

    private static int lengthOf(int number) {
        int length = 0;
        int left = number;
        for (int i = 0; i < LONGEST && left > 0; i++) {
            left = (left - 1) / WORDS;
            length++;
        }
        return length;
    }

    private static int bitsOf(int number) {
        int length = lengthOf(number);
        int ofLength = 1 << 2 * length;
        return number - (ofLength - 1) / 3 + ofLength;
    }

    private static int lengthOfBits(int bits) {
        int length = 0;
        while (length < LONGEST && bits >> 2 * length + 2 != 0) {
            length++;
        }
        return length;
    }

    private static int numberOfBits(int bits) {
        int ofLength = 1 << 2 * lengthOfBits(bits);
        return bits - ofLength + (ofLength - 1) / 3;
    }

    /** The k-th WORD, from 0 on; the caller has seen that there is one. */
    private static int wordAt(int number, int k) {
        return wordOfBits(bitsOf(number), lengthOf(number) - 1 - k);
    }

    /** The WORD with so many WORDS behind it. */
    private static int wordOfBits(int bits, int behind) {
        return bits >> 2 * behind & 3;
    }

    private static int timesOf(int word, int number) {
        int bits = bitsOf(number);
        int length = lengthOf(number);
        int times = 0;
        for (int i = 0; i < length; i++) {
            if (wordOfBits(bits, i) == word) {
                times++;
            }
        }
        return times;
    }

    /**
     * Row by row, both TEXTS from their ends on, which is all one. A row's seven cells, each at most 6, stand in
     * one int: there are calls that ask for thousands of rows, and rows of ints would fill the room.
     */
    private static int driftOf(int one, int other) {
        int oneBits = bitsOf(one);
        int otherBits = bitsOf(other);
        int oneLength = lengthOf(one);
        int otherLength = lengthOf(other);
        int row = 0;
        for (int j = 0; j <= otherLength; j++) {
            row |= j << 4 * j;
        }
        for (int i = 1; i <= oneLength; i++) {
            int word = wordOfBits(oneBits, i - 1);
            int left = i;
            int next = i;
            for (int j = 1; j <= otherLength; j++) {
                int change = word == wordOfBits(otherBits, j - 1) ? 0 : 1;
                int put = Math.min(left, row >> 4 * j & 15) + 1;
                left = Math.min((row >> 4 * (j - 1) & 15) + change, put);
                next |= left << 4 * j;
            }
            row = next;
        }
        return row >> 4 * otherLength & 15;
    }

    /** Of the longest TEXTS that are left of both the least: a greater NUMBER of one length is no better. */
    private static int mostShared(int one, int other) {
        int length = lengthOf(one);
        int best = 0;
        for (int kept = 0; kept < 1 << length; kept++) {
            int left = 0;
            for (int k = 0; k < length; k++) {
                if (isIn(kept, k)) {
                    left = longer(left, wordAt(one, k));
                }
            }
            int longerBy = lengthOf(left) - lengthOf(best);
            if ((longerBy > 0 || longerBy == 0 && left < best) && isLeftOf(left, other)) {
                best = left;
            }
        }
        return best;
    }

    private static boolean isLeftOf(int left, int whole) {
        int length = lengthOf(left);
        int wholeLength = lengthOf(whole);
        int found = 0;
        for (int k = 0; k < wholeLength && found < length; k++) {
            if (wordAt(whole, k) == wordAt(left, found)) {
                found++;
            }
        }
        return found == length;
    }

    /** All that is told, and nothing that is only reckoned from it. BOOKS, YEARS, SIGHTS never change once told. */
    private static final class Told {
        private final byte[] tape = new byte[TAPE];
        private int length = 0;
        private int fault = 0;
        private int place = NONE;
        private final int[] counts = new int[SORTS];
        private final Book[] books = new Book[MOST_OF_SORT];
        private final Year[] years = new Year[MOST_OF_SORT];
        private final Sight[] sights = new Sight[MOST_OF_SORT];

        private void putBytes(int four) {
            for (int shift = 24; shift >= 0 && length < TAPE; shift -= 8) {
                tape[length] = (byte) (four >>> shift);
                length++;
            }
        }

        private void becomes(Told other) {
            System.arraycopy(other.tape, 0, tape, 0, TAPE);
            length = other.length;
            fault = other.fault;
            place = other.place;
            System.arraycopy(other.counts, 0, counts, 0, SORTS);
            for (int i = 0; i < MOST_OF_SORT; i++) {
                books[i] = other.books[i];
                years[i] = other.years[i];
                sights[i] = other.sights[i];
            }
        }
    }

    /** The lines of a text of a sort: what may stand in them, and what they tell. */
    private abstract static class Lines {
        /** Which line the word at hand begins, NONE if there is no such line. */
        abstract int lineOf(Teller in);

        abstract int fewestNumbers(int line);

        abstract int mostNumbers(int line);

        /** The line's first token is at hand. */
        abstract void beginLine(int line, Teller in);

        /** The line's NUMBER k, from 0 on, is at hand. */
        abstract void takeNumber(int line, int k, Teller in);
    }

    /** Goes through the tape token by token, and keeps the FAULT. */
    private static final class Teller {
        private static final int END = 0;
        private static final int LETTERS = 1;
        private static final int DIGITS = 2;
        private static final int SEMICOLON = 3;
        private static final int NO_TOKEN = 4;

        private byte[] tape = null;
        private int length = 0;
        private int at = 0;
        private int kind = END;
        private int start = 0;
        private int value = 0;
        private int fault = 0;
        private int place = NONE;

        /** False: there is a FAULT. */
        private boolean tell(byte[] told, int bytes, Lines lines) {
            tape = told;
            length = bytes;
            at = 0;
            fault = 0;
            place = NONE;
            advance();
            for (int i = 0; i <= TAPE && kind != END; i++) {
                if (!tellLine(lines)) {
                    fault = 1;
                    place = start;
                    return false;
                }
            }
            return fault == 0;
        }

        /** False: with the token at hand no text goes on. */
        private boolean tellLine(Lines lines) {
            int line = kind == LETTERS ? lines.lineOf(this) : NONE;
            if (line == NONE) {
                return false;
            }
            lines.beginLine(line, this);
            advance();
            int most = lines.mostNumbers(line);
            int numbers = 0;
            while (numbers < most && kind == DIGITS) {
                lines.takeNumber(line, numbers, this);
                numbers++;
                advance();
            }
            if (numbers < lines.fewestNumbers(line) || kind != SEMICOLON) {
                return false;
            }
            advance();
            return true;
        }

        private void advance() {
            while (at < length && (tape[at] == 10 || tape[at] == 32)) {
                at++;
            }
            start = at;
            if (at >= length) {
                kind = END;
            } else if (isLetter(at)) {
                kind = LETTERS;
                while (at < length && isLetter(at)) {
                    at++;
                }
            } else if (isDigit(at)) {
                advanceDigits();
            } else {
                kind = tape[at] == ';' ? SEMICOLON : NO_TOKEN;
                at++;
            }
        }

        private void advanceDigits() {
            value = 0;
            while (at < length && isDigit(at)) {
                if (at - start < 2) {
                    value = value * 10 + (tape[at] - '0');
                }
                at++;
            }
            kind = at - start <= 2 ? DIGITS : NO_TOKEN;
        }

        private boolean isLetter(int i) {
            return tape[i] >= 'a' && tape[i] <= 'z';
        }

        private boolean isDigit(int i) {
            return tape[i] >= '0' && tape[i] <= '9';
        }

        private boolean isAtHand(String letters) {
            if (at - start != letters.length()) {
                return false;
            }
            for (int i = 0; i < letters.length(); i++) {
                if (tape[start + i] != letters.charAt(i)) {
                    return false;
                }
            }
            return true;
        }

        /** True: the NUMBER at hand is one of least .. most; else it is a FAULT. */
        private boolean isWithin(int least, int most) {
            if (value < least || value > most) {
                faultHere(2);
                return false;
            }
            return true;
        }

        /** The first by place stays, of one place the least. */
        private void faultHere(int which) {
            if (fault == 0 || start < place || start == place && which < fault) {
                fault = which;
                place = start;
            }
        }
    }

    /** A BOOK, and what its READERS make of a TEXT. */
    private static final class Book extends Lines {
        private static final int SHIFT = 0;
        private static final int DROP = 1;
        private static final int DOUBLE = 2;
        private static final int SWAP = 3;
        private static final int TURN = 4;
        private static final int TEXT = 5;
        private static final int KIN = 6;
        private static final int READER = 7;

        private int number = 0;
        private int readers = 0;
        private int kinOf = NONE;
        private final int[] kin = {0, 1, 2, 3};
        private final int[] steps = new int[MOST_READERS];
        private final int[] stepKinds = new int[MOST_READERS * MOST_STEPS];
        private final int[] stepNumbers = new int[MOST_READERS * MOST_STEPS];

        int lineOf(Teller in) {
            if (in.isAtHand("shift")) {
                return SHIFT;
            }
            if (in.isAtHand("drop")) {
                return DROP;
            }
            if (in.isAtHand("double")) {
                return DOUBLE;
            }
            if (in.isAtHand("swap")) {
                return SWAP;
            }
            if (in.isAtHand("turn")) {
                return TURN;
            }
            if (in.isAtHand("text")) {
                return TEXT;
            }
            if (in.isAtHand("kin")) {
                return KIN;
            }
            return in.isAtHand("reader") ? READER : NONE;
        }

        int fewestNumbers(int line) {
            return line == TEXT ? 0 : mostNumbers(line);
        }

        int mostNumbers(int line) {
            switch (line) {
                case TEXT: return TAPE;
                case KIN: return 2;
                case READER: return 0;
                case TURN: return 0;
                default: return 1;
            }
        }

        void beginLine(int line, Teller in) {
            if (line == TEXT) {
                number = 0;
            } else if (line == READER) {
                if (readers < MOST_READERS) {
                    readers++;
                } else {
                    in.faultHere(3);
                }
            } else if (line <= TURN) {
                beginStep(line, in);
            }
        }

        private void beginStep(int line, Teller in) {
            int latest = readers - 1;
            if (latest < 0) {
                in.faultHere(4);
            } else if (steps[latest] >= MOST_STEPS) {
                in.faultHere(3);
            } else {
                stepKinds[latest * MOST_STEPS + steps[latest]] = line;
                steps[latest]++;
            }
        }

        void takeNumber(int line, int k, Teller in) {
            boolean place = line == DROP || line == DOUBLE || line == SWAP;
            boolean can = in.isWithin(place ? 1 : 0, place ? LONGEST : WORDS - 1);
            if (line == TEXT && k >= LONGEST) {
                in.faultHere(3);
            } else if (can) {
                keepNumber(line, k, in.value);
            }
        }

        private void keepNumber(int line, int k, int value) {
            int latest = readers - 1;
            if (line == TEXT) {
                number = longer(number, value);
            } else if (line == KIN && k == 0) {
                kinOf = value;
            } else if (line == KIN) {
                if (isWord(kinOf)) {
                    kin[kinOf] = value;
                }
            } else if (latest >= 0 && steps[latest] > 0) {
                stepNumbers[latest * MOST_STEPS + steps[latest] - 1] = value;
            }
        }

        private boolean hasReader(int reader) {
            return reader >= 0 && reader < readers;
        }

        /** Of bits; none is fine. */
        private boolean hasReaders(int bits) {
            return bits >= 0 && bits < 1 << readers;
        }

        private int tells(int what) {
            if (what == 0) {
                return number;
            }
            if (what == 1) {
                return readers;
            }
            if (what >= 10 && what < 10 + WORDS) {
                return kin[what - 10];
            }
            if (what >= 20 && what < 20 + readers) {
                return steps[what - 20];
            }
            return what < 30 ? NONE : tellsStep((what - 30) / 10, (what - 30) % 10);
        }

        private int tellsStep(int reader, int rest) {
            if (!hasReader(reader) || rest / 2 >= steps[reader]) {
                return NONE;
            }
            int step = reader * MOST_STEPS + rest / 2;
            return rest % 2 == 0 ? stepKinds[step] : stepNumbers[step];
        }

        private int readBy(int reader, int before) {
            int bits = bitsOf(before);
            for (int k = 0; k < steps[reader]; k++) {
                int step = reader * MOST_STEPS + k;
                bits = stepOn(bits, stepKinds[step], stepNumbers[step]);
            }
            return numberOfBits(bits);
        }

        private int stepOn(int bits, int kind, int k) {
            int length = lengthOfBits(bits);
            switch (kind) {
                case SHIFT: return shifted(bits, length, k);
                case DROP: return k > length ? bits : dropped(bits, length - k);
                case DOUBLE: return k > length || length >= LONGEST ? bits : doubled(bits, length - k);
                case SWAP: return k >= length ? bits : swapped(bits, length - k - 1);
                default: return turned(bits, length);
            }
        }

        private int shifted(int bits, int length, int word) {
            int change = word ^ kin[word];
            int made = bits;
            for (int i = 0; i < length; i++) {
                if ((bits >> 2 * i & 3) == word) {
                    made ^= change << 2 * i;
                }
            }
            return made;
        }

        private static int dropped(int bits, int behind) {
            int tail = bits & (1 << 2 * behind) - 1;
            return bits >> 2 * behind + 2 << 2 * behind | tail;
        }

        private static int doubled(int bits, int behind) {
            int tail = bits & (1 << 2 * behind) - 1;
            int head = bits >> 2 * behind;
            return (head << 2 | head & 3) << 2 * behind | tail;
        }

        private static int swapped(int bits, int behind) {
            int change = (bits >> 2 * behind ^ bits >> 2 * behind + 2) & 3;
            return bits ^ change << 2 * behind ^ change << 2 * behind + 2;
        }

        private static int turned(int bits, int length) {
            int made = 1;
            for (int i = 0; i < length; i++) {
                made = made << 2 | bits >> 2 * i & 3;
            }
            return made;
        }

        private int kinRing(int word) {
            int at = word;
            for (int i = 0; i < WORDS; i++) {
                at = kin[at];
            }
            int inRing = at;
            int many = 0;
            do {
                at = kin[at];
                many++;
            } while (at != inRing && many < WORDS);
            return many;
        }

        private int kinUntilRing(int word) {
            int at = word;
            for (int until = 0; until < WORDS; until++) {
                if (isInKinRing(at)) {
                    return until;
                }
                at = kin[at];
            }
            return WORDS;
        }

        private boolean isInKinRing(int word) {
            int at = word;
            for (int i = 0; i < WORDS; i++) {
                at = kin[at];
                if (at == word) {
                    return true;
                }
            }
            return false;
        }
    }

    private static final class Year extends Lines {
        private static final int READ = 0;
        private static final int COPY = 1;
        private static final int SEAL = 2;
        private static final int RESTORE = 3;
        private static final int HUSH = 4;
        private static final int DAY = 5;

        private int deeds = 0;
        private final int[] kinds = new int[MOST_DEEDS];
        private final int[] ones = new int[MOST_DEEDS];
        private final int[] others = new int[MOST_DEEDS];

        int lineOf(Teller in) {
            if (in.isAtHand("read")) {
                return READ;
            }
            if (in.isAtHand("copy")) {
                return COPY;
            }
            if (in.isAtHand("seal")) {
                return SEAL;
            }
            if (in.isAtHand("restore")) {
                return RESTORE;
            }
            if (in.isAtHand("hush")) {
                return HUSH;
            }
            return in.isAtHand("day") ? DAY : NONE;
        }

        int fewestNumbers(int line) {
            return mostNumbers(line);
        }

        int mostNumbers(int line) {
            switch (line) {
                case READ: return 2;
                case COPY: return 2;
                case DAY: return 0;
                default: return 1;
            }
        }

        void beginLine(int line, Teller in) {
            if (deeds >= MOST_DEEDS) {
                in.faultHere(3);
                return;
            }
            kinds[deeds] = line;
            ones[deeds] = NONE;
            others[deeds] = NONE;
            deeds++;
        }

        void takeNumber(int line, int k, Teller in) {
            int latest = deeds - 1;
            boolean reader = line == READ && k == 1;
            if (!in.isWithin(0, reader ? MOST_READERS - 1 : COPIES - 1) || latest < 0) {
                return;
            }
            if (k == 0) {
                ones[latest] = in.value;
                return;
            }
            if (line == COPY && ones[latest] == in.value) {
                in.faultHere(2);
            }
            others[latest] = in.value;
        }

        private int tells(int k, int what) {
            if (k == NONE && what == 0) {
                return deeds;
            }
            if (k < 0 || k >= deeds) {
                return NO_SUCH;
            }
            switch (what) {
                case 0: return kinds[k];
                case 1: return ones[k];
                case 2: return others[k];
                default: return NO_SUCH;
            }
        }
    }

    private static final class Sight extends Lines {
        private static final int SEEN = 0;

        private int facts = 0;
        private final int[] behind = new int[MOST_FACTS];
        private final int[] numbers = new int[MOST_FACTS];

        int lineOf(Teller in) {
            return in.isAtHand("seen") ? SEEN : NONE;
        }

        int fewestNumbers(int line) {
            return 1;
        }

        int mostNumbers(int line) {
            return TAPE;
        }

        void beginLine(int line, Teller in) {
            if (facts >= MOST_FACTS) {
                in.faultHere(3);
                return;
            }
            numbers[facts] = 0;
            facts++;
        }

        void takeNumber(int line, int k, Teller in) {
            boolean can = in.isWithin(0, k == 0 ? MOST_READINGS : WORDS - 1);
            int latest = facts - 1;
            if (k > LONGEST) {
                in.faultHere(3);
            } else if (can && latest >= 0) {
                if (k == 0) {
                    behind[latest] = in.value;
                } else {
                    numbers[latest] = longer(numbers[latest], in.value);
                }
            }
        }

        private int tells(int k, int what) {
            if (k == NONE && what == 0) {
                return facts;
            }
            if (k < 0 || k >= facts) {
                return NO_SUCH;
            }
            switch (what) {
                case 0: return behind[k];
                case 1: return numbers[k];
                default: return NO_SUCH;
            }
        }
    }

    /** How a YEAR of a BOOK goes: a STATE, changed DEED by DEED. */
    private static final class Course {
        private static final int LAST_DAY = 99;

        private Book book = null;
        private int day = 0;
        private int sealed = 0;
        private int hushed = 0;
        private int seed = 0;
        private final int[] copies = new int[COPIES];
        private final int[] timesRead = new int[MOST_READERS];

        private void begin(Book of) {
            book = of;
            day = 0;
            sealed = 0;
            hushed = 0;
            Arrays.fill(copies, of.number);
            Arrays.fill(timesRead, 0);
        }

        /** The first n DEEDS, up to the first that can't be: how many were done. */
        private int doFirst(Year year, int n) {
            for (int k = 0; k < n && k < year.deeds; k++) {
                if (!doDeed(year.kinds[k], year.ones[k], year.others[k])) {
                    return k;
                }
            }
            return n;
        }

        /** False, and nothing is done, if it can't be. */
        private boolean doDeed(int kind, int one, int other) {
            if (kind != Year.DAY && (one < 0 || one >= COPIES)) {
                return false;
            }
            switch (kind) {
                case Year.READ: return doRead(one, other);
                case Year.COPY: return doCopy(one, other);
                case Year.SEAL:
                    sealed = one;
                    return true;
                case Year.RESTORE:
                    if (one == sealed) {
                        return false;
                    }
                    copies[one] = book.number;
                    return true;
                case Year.HUSH:
                    if (isIn(hushed, one)) {
                        return false;
                    }
                    hushed |= 1 << one;
                    return true;
                default:
                    if (day >= LAST_DAY) {
                        return false;
                    }
                    day++;
                    return true;
            }
        }

        private boolean doRead(int copy, int reader) {
            if (!book.hasReader(reader)) {
                return false;
            }
            timesRead[reader]++;
            if (isIn(hushed, copy)) {
                hushed &= ~(1 << copy);
            } else {
                copies[copy] = book.readBy(reader, copies[copy]);
            }
            return true;
        }

        private boolean doCopy(int from, int to) {
            if (to < 0 || to >= COPIES || from == to) {
                return false;
            }
            copies[to] = copies[from];
            return true;
        }

        private void draw(int x, int n) {
            seed = x;
            for (int i = 0; i < n; i++) {
                int copy = drawBelow(COPIES);
                int which = drawBelow(8);
                if (which <= 4) {
                    if (book.readers > 0) {
                        doDeed(Year.READ, copy, drawBelow(book.readers));
                    }
                } else if (which == 5) {
                    doDeed(Year.COPY, copy, drawBelow(COPIES));
                } else {
                    doDeed(which == 6 ? Year.HUSH : Year.DAY, copy, NONE);
                }
            }
        }

        private int drawBelow(int n) {
            seed = seed * 1103515245 + 12345;
            return n <= 0 ? 0 : (seed >>> 16) % n;
        }

        private int tells(int what) {
            switch (what) {
                case 0: return day;
                case 1: return sealed;
                case 2: return suits();
                case 3: return against();
                case 4: return driftOfCopy(against());
                case 5: return hushed;
                default:
                    if (what >= 10 && what < 10 + COPIES) {
                        return copies[what - 10];
                    }
                    return what >= 20 && what < 20 + book.readers ? timesRead[what - 20] : NO_SUCH;
            }
        }

        private int suits() {
            int many = 0;
            for (int copy = 0; copy < COPIES; copy++) {
                if (copies[copy] != copies[sealed]) {
                    many++;
                }
            }
            return many;
        }

        private int against() {
            int worst = 0;
            for (int copy = 1; copy < COPIES; copy++) {
                if (driftOfCopy(copy) > driftOfCopy(worst)) {
                    worst = copy;
                }
            }
            return worst;
        }

        private int driftOfCopy(int copy) {
            return driftOf(copies[copy], book.number);
        }
    }

    /** What comes of each TEXT by each READER of a BOOK, reckoned once, when it is first asked for. */
    private static final class Readings {
        private Book book = null;
        private final int[] known = new int[MOST_READERS * TEXTS];
        private byte[] marks = new byte[TEXTS];
        private byte[] spare = new byte[TEXTS];

        private void takeUp(Book of) {
            if (book != of) {
                book = of;
                Arrays.fill(known, NONE);
            }
        }

        private int all() {
            return (1 << book.readers) - 1;
        }

        private int after(int reader, int number) {
            int at = reader * TEXTS + number;
            if (known[at] == NONE) {
                known[at] = book.readBy(reader, number);
            }
            return known[at];
        }

        private boolean isChanged(int number, int readers) {
            for (int r = 0; r < book.readers; r++) {
                if (isIn(readers, r) && after(r, number) != number) {
                    return true;
                }
            }
            return false;
        }

        private int unchangedBy(int readers) {
            int many = 0;
            for (int t = 0; t < TEXTS; t++) {
                if (!isChanged(t, readers)) {
                    many++;
                }
            }
            return many;
        }

        private int alikeEitherWay(int a, int b) {
            int many = 0;
            for (int t = 0; t < TEXTS; t++) {
                if (after(b, after(a, t)) == after(a, after(b, t))) {
                    many++;
                }
            }
            return many;
        }

        /** Marks the TEXTS that come to a TEXT by just n readings. */
        private void goBack(int number, int n) {
            Arrays.fill(marks, (byte) 0);
            marks[number] = 1;
            for (int i = 0; i < n; i++) {
                for (int t = 0; t < TEXTS; t++) {
                    spare[t] = comesToMarked(t) ? (byte) 1 : (byte) 0;
                }
                byte[] older = marks;
                marks = spare;
                spare = older;
            }
        }

        private boolean comesToMarked(int number) {
            for (int r = 0; r < book.readers; r++) {
                if (marks[after(r, number)] != 0) {
                    return true;
                }
            }
            return false;
        }

        private void markUnmade() {
            Arrays.fill(marks, (byte) 1);
            for (int r = 0; r < book.readers; r++) {
                for (int t = 0; t < TEXTS; t++) {
                    marks[after(r, t)] = 0;
                }
            }
        }

        private int marked() {
            int many = 0;
            for (int t = 0; t < TEXTS; t++) {
                many += marks[t];
            }
            return many;
        }

        private int leastMarked() {
            for (int t = 0; t < TEXTS; t++) {
                if (marks[t] != 0) {
                    return t;
                }
            }
            return NONE;
        }
    }

    /** The TEXTS that a TEXT comes to, in the order of their first rows of READERS, the short ones first. */
    private static final class Walk {
        private int size = 0;
        private final int[] queue = new int[TEXTS];
        private final int[] needed = new int[TEXTS];
        private final int[] back = new int[TEXTS];
        private final int[] reader = new int[TEXTS];

        private Walk() {
            Arrays.fill(needed, NONE);
        }

        /** By some READERS (bits); it may end at a goal. */
        private void go(Readings by, int from, int readers, int goal) {
            for (int i = 0; i < size; i++) {
                needed[queue[i]] = NONE;
            }
            size = 0;
            comeTo(from, 0, NONE, NONE);
            for (int i = 0; i < size && i < TEXTS; i++) {
                int t = queue[i];
                if (t == goal) {
                    return;
                }
                for (int r = 0; r < by.book.readers; r++) {
                    if (isIn(readers, r)) {
                        comeTo(by.after(r, t), needed[t] + 1, t, r);
                    }
                }
            }
        }

        private void comeTo(int number, int readings, int from, int by) {
            if (needed[number] == NONE && size < TEXTS) {
                needed[number] = readings;
                back[number] = from;
                reader[number] = by;
                queue[size] = number;
                size++;
            }
        }

        /** The READER k of the way to a TEXT; the caller has seen that there is one. */
        private int readerOnWay(int to, int k) {
            int t = to;
            for (int i = needed[to] - 1; i > k; i--) {
                t = back[t];
            }
            return reader[t];
        }

        private int wayBack(Readings by, int start) {
            for (int i = 0; i < size; i++) {
                for (int r = 0; r < by.book.readers; r++) {
                    if (by.after(r, queue[i]) == start) {
                        return needed[queue[i]] + 1;
                    }
                }
            }
            return NONE;
        }

        private int farthest() {
            return size == 0 ? 0 : needed[queue[size - 1]];
        }

        private int meeting(Walk other) {
            int best = NONE;
            int fewest = 0;
            for (int i = 0; i < size; i++) {
                int t = queue[i];
                if (other.needed[t] != NONE) {
                    int together = needed[t] + other.needed[t];
                    if (best == NONE || together < fewest || together == fewest && t < best) {
                        best = t;
                        fewest = together;
                    }
                }
            }
            return best;
        }

        private int nearestTo(int goal) {
            int best = queue[0];
            int least = driftOf(best, goal);
            for (int i = 1; i < size; i++) {
                int drift = driftOf(queue[i], goal);
                if (drift < least || drift == least && queue[i] < best) {
                    best = queue[i];
                    least = drift;
                }
            }
            return best;
        }

        private int firstSettled(Readings by) {
            int best = NONE;
            for (int i = 0; i < size; i++) {
                int t = queue[i];
                if (best != NONE && needed[t] > needed[best]) {
                    return best;
                }
                if ((best == NONE || t < best) && !by.isChanged(t, by.all())) {
                    best = t;
                }
            }
            return best;
        }
    }

    /**
     * What comes of a BOOK's TEXT behind 0, 1 .. n readings: a level for each number of readings, in it each TEXT
     * once, with how many rows of READERS come to it, and then, from the end back, what it is worth.
     */
    private static final class Levels {
        private static final int LEAST = 0;
        private static final int MOST = 1;
        private static final int SUM = 2;
        private static final int FREE = -1;
        private static final int NEVER = -2;
        // 1, 5, 25, 125, 625, 3125 and four times all TEXTS.
        private static final int NODES = 25750;

        private Readings readings = null;
        private int n = 0;
        private int first = 0;
        private int second = 0;
        private final int[] start = new int[MOST_READINGS + 2];
        private final int[] wanted = new int[MOST_READINGS + 1];
        private final int[] texts = new int[NODES];
        private final int[] ways = new int[NODES];
        private final int[] worth = new int[NODES];
        private final int[] nodeOf = new int[TEXTS];

        private Levels() {
            Arrays.fill(nodeOf, NONE);
        }

        private void wantNothing() {
            Arrays.fill(wanted, FREE);
        }

        private void want(Sight seen) {
            wantNothing();
            for (int k = 0; k < seen.facts; k++) {
                int at = seen.behind[k];
                if (wanted[at] == FREE || wanted[at] == seen.numbers[k]) {
                    wanted[at] = seen.numbers[k];
                } else {
                    wanted[at] = NEVER;
                }
            }
        }

        private boolean isWanted(int level, int number) {
            return wanted[level] == FREE || wanted[level] == number;
        }

        /** Readings 0, 2 .. by the first READERS (bits), 1, 3 .. by the second ones. */
        private void spread(Readings by, int span, int firstOnes, int secondOnes) {
            readings = by;
            n = span;
            first = firstOnes;
            second = secondOnes;
            start[0] = 0;
            start[1] = 0;
            if (isWanted(0, by.book.number)) {
                texts[0] = by.book.number;
                ways[0] = 1;
                start[1] = 1;
            }
            for (int level = 0; level < n; level++) {
                start[level + 2] = fillBehind(level);
                forget(level + 1);
            }
        }

        private int fillBehind(int level) {
            int end = start[level + 1];
            for (int node = start[level]; node < start[level + 1]; node++) {
                for (int r = 0; r < readings.book.readers; r++) {
                    if (!isIn(onesAt(level), r)) {
                        continue;
                    }
                    int made = readings.after(r, texts[node]);
                    if (nodeOf[made] == NONE && isWanted(level + 1, made) && end < NODES) {
                        nodeOf[made] = end;
                        texts[end] = made;
                        ways[end] = 0;
                        end++;
                    }
                    if (nodeOf[made] != NONE) {
                        ways[nodeOf[made]] += ways[node];
                    }
                }
            }
            return end;
        }

        private int onesAt(int level) {
            return level % 2 == 0 ? first : second;
        }

        private void recall(int level) {
            for (int node = start[level]; node < start[level + 1]; node++) {
                nodeOf[texts[node]] = node;
            }
        }

        private void forget(int level) {
            for (int node = start[level]; node < start[level + 1]; node++) {
                nodeOf[texts[node]] = NONE;
            }
        }

        private void endByDrift() {
            for (int node = start[n]; node < start[n + 1]; node++) {
                worth[node] = driftOf(texts[node], readings.book.number);
            }
        }

        private void endByWord(int word) {
            for (int node = start[n]; node < start[n + 1]; node++) {
                worth[node] = timesOf(word, texts[node]);
            }
        }

        private void endByOne() {
            for (int node = start[n]; node < start[n + 1]; node++) {
                worth[node] = 1;
            }
        }

        /** What each TEXT is worth by what comes of it: how, at readings 0, 2 .., at readings 1, 3 .. */
        private void foldBack(int howFirst, int howSecond) {
            for (int level = n - 1; level >= 0; level--) {
                int how = level % 2 == 0 ? howFirst : howSecond;
                recall(level + 1);
                for (int node = start[level]; node < start[level + 1]; node++) {
                    worth[node] = folded(level, node, how);
                }
                forget(level + 1);
            }
        }

        private int folded(int level, int node, int how) {
            int found = NONE;
            for (int r = 0; r < readings.book.readers; r++) {
                int made = isIn(onesAt(level), r) ? nodeOf[readings.after(r, texts[node])] : NONE;
                if (made == NONE) {
                    continue;
                }
                if (found == NONE) {
                    found = worth[made];
                } else if (how == SUM) {
                    found += worth[made];
                } else {
                    found = how == LEAST ? Math.min(found, worth[made]) : Math.max(found, worth[made]);
                }
            }
            return found == NONE ? 0 : found;
        }

        /** The READER of a reading in the first row that comes to what the BOOK's TEXT is worth. */
        private int chosenAt(int reading) {
            int node = 0;
            int chosen = NONE;
            for (int level = 0; level <= reading && level < n; level++) {
                recall(level + 1);
                chosen = firstAsGood(level, node);
                if (chosen != NONE) {
                    node = nodeOf[readings.after(chosen, texts[node])];
                }
                forget(level + 1);
                if (chosen == NONE) {
                    return NONE;
                }
            }
            return chosen;
        }

        private int firstAsGood(int level, int node) {
            for (int r = 0; r < readings.book.readers; r++) {
                int made = isIn(onesAt(level), r) ? nodeOf[readings.after(r, texts[node])] : NONE;
                if (made != NONE && worth[made] == worth[node]) {
                    return r;
                }
            }
            return NONE;
        }

        private int bestStart() {
            return worth[0];
        }

        private int bestEnd(boolean most) {
            int best = worth[start[n]];
            for (int node = start[n] + 1; node < start[n + 1]; node++) {
                best = most ? Math.max(best, worth[node]) : Math.min(best, worth[node]);
            }
            return best;
        }

        private long sumOfEnds() {
            long sum = 0;
            for (int node = start[n]; node < start[n + 1]; node++) {
                sum += (long) ways[node] * worth[node];
            }
            return sum;
        }

        private int rows() {
            int sum = 0;
            for (int node = start[n]; node < start[n + 1]; node++) {
                sum += ways[node];
            }
            return sum;
        }

        private int rowsTo(int number) {
            for (int node = start[n]; node < start[n + 1]; node++) {
                if (texts[node] == number) {
                    return ways[node];
                }
            }
            return 0;
        }

        private int look() {
            int best = NONE;
            int least = 0;
            for (int level = 0; level <= n; level++) {
                int most = 0;
                for (int node = start[level]; node < start[level + 1]; node++) {
                    most = Math.max(most, ways[node] * worth[node]);
                }
                if (best == NONE || most < least) {
                    best = level;
                    least = most;
                }
            }
            return best;
        }

        private int onlyReaderAt(int level) {
            int only = NONE;
            recall(level + 1);
            for (int r = 0; r < readings.book.readers; r++) {
                if (isReaderAt(level, r)) {
                    if (only != NONE) {
                        forget(level + 1);
                        return NONE;
                    }
                    only = r;
                }
            }
            forget(level + 1);
            return only;
        }

        /** Whether a READER has this reading in a row that fits; the level behind it is recalled. */
        private boolean isReaderAt(int level, int r) {
            for (int node = start[level]; node < start[level + 1]; node++) {
                int made = nodeOf[readings.after(r, texts[node])];
                if (made != NONE && worth[made] > 0) {
                    return true;
                }
            }
            return false;
        }
    }

    /** ORBITS of one READER, and CIRCLES by all of them. */
    private static final class Rings {
        private static final int ANSWERS = 6;
        private static final int RINGS = 0;
        private static final int LONGEST_RING = 1;
        private static final int IN_RINGS = 2;
        private static final int MOST_UNTIL = 3;
        private static final int OF_NONE = 4;
        private static final int STAYING = 5;
        // Each TEXT is come to once and left once, and each READER is tried once on it.
        private static final int ROUNDS = TEXTS * (MOST_READERS + 2);

        private final int[] answers = new int[ANSWERS];
        private int circles = 0;
        private int largest = 0;
        private int found = 0;
        private int open = 0;
        private int depth = 0;
        private final int[] leading = new int[TEXTS];
        private final int[] outside = new int[TEXTS];
        private final int[] readBefore = new int[TEXTS];
        private final int[] way = new int[TEXTS];
        private final int[] opened = new int[TEXTS];
        private final int[] order = new int[TEXTS];
        private final int[] earliest = new int[TEXTS];
        private final int[] tried = new int[TEXTS];
        private final int[] sizeOf = new int[TEXTS];

        private void findOrbits(Readings by, int reader) {
            Arrays.fill(answers, 0);
            Arrays.fill(leading, 0);
            Arrays.fill(readBefore, 0);
            for (int t = 0; t < TEXTS; t++) {
                int made = by.after(reader, t);
                leading[made]++;
                if (made == t) {
                    answers[STAYING]++;
                }
            }
            answers[OF_NONE] = putThoseOfNone();
            answers[IN_RINGS] = TEXTS - takeOutside(by, reader, answers[OF_NONE]);
            for (int t = 0; t < TEXTS; t++) {
                if (leading[t] > 0) {
                    answers[MOST_UNTIL] = Math.max(answers[MOST_UNTIL], readBefore[t]);
                }
            }
            for (int t = 0; t < TEXTS; t++) {
                if (leading[t] > 0) {
                    answers[RINGS]++;
                    answers[LONGEST_RING] = Math.max(answers[LONGEST_RING], goRound(by, reader, t));
                }
            }
        }

        private int putThoseOfNone() {
            int size = 0;
            for (int t = 0; t < TEXTS; t++) {
                if (leading[t] == 0) {
                    outside[size] = t;
                    size++;
                }
            }
            return size;
        }

        /** Takes away TEXTS to which nothing leads any more, until rings are left: how many it took. */
        private int takeOutside(Readings by, int reader, int ofNone) {
            int size = ofNone;
            for (int i = 0; i < size && i < TEXTS; i++) {
                int t = outside[i];
                int made = by.after(reader, t);
                readBefore[made] = Math.max(readBefore[made], readBefore[t] + 1);
                leading[made]--;
                if (leading[made] == 0 && size < TEXTS) {
                    outside[size] = made;
                    size++;
                }
            }
            return size;
        }

        /** How long the ring of a TEXT is; its TEXTS are taken away. */
        private int goRound(Readings by, int reader, int from) {
            int t = from;
            int length = 0;
            while (length < TEXTS && leading[t] > 0) {
                leading[t] = 0;
                t = by.after(reader, t);
                length++;
            }
            return length;
        }

        /** Tarjan's way, with rows in the place of recursion, which would go too deep. */
        private void findCircles(Readings by) {
            circles = 0;
            largest = 0;
            found = 0;
            open = 0;
            Arrays.fill(order, NONE);
            Arrays.fill(sizeOf, 0);
            for (int t = 0; t < TEXTS; t++) {
                if (order[t] == NONE) {
                    findFrom(by, t);
                }
            }
        }

        private void findFrom(Readings by, int from) {
            depth = 0;
            enter(from);
            for (int i = 0; i < ROUNDS && depth > 0; i++) {
                int t = way[depth - 1];
                if (tried[t] < by.book.readers) {
                    tryNext(by, t);
                } else {
                    leave(t);
                }
            }
        }

        private void enter(int number) {
            order[number] = found;
            earliest[number] = found;
            tried[number] = 0;
            found++;
            opened[open] = number;
            open++;
            way[depth] = number;
            depth++;
        }

        private void tryNext(Readings by, int t) {
            int made = by.after(tried[t], t);
            tried[t]++;
            if (order[made] == NONE) {
                enter(made);
            } else if (sizeOf[made] == 0) {
                earliest[t] = Math.min(earliest[t], order[made]);
            }
        }

        private void leave(int t) {
            depth--;
            if (depth > 0) {
                int before = way[depth - 1];
                earliest[before] = Math.min(earliest[before], earliest[t]);
            }
            if (earliest[t] == order[t]) {
                closeCircle(t);
            }
        }

        private void closeCircle(int first) {
            int bottom = open - 1;
            while (bottom > 0 && opened[bottom] != first) {
                bottom--;
            }
            int size = open - bottom;
            for (int i = bottom; i < open; i++) {
                sizeOf[opened[i]] = size;
            }
            open = bottom;
            circles++;
            largest = Math.max(largest, size);
        }
    }
}
