/** Each sentence of the document that names a boundary of the tape, of tokens, of texts, of FAULTS, of images. */
public final class TellingBoundsTests extends Kit {
    private static final int[] NO_SORTS = {-1, 3, MIN, MAX};
    // A text of each sort that tells something, and how it is seen that this one was told.
    private static final String[] GOOD = {"text 3 1;", "day;hush 2;day;", "seen 4 2;seen 9;seen 0 3 3;"};
    private static final int[] SEEN = {n("31"), 3, 3};

    private static int seen(ReadAloud x, int sort, int at) {
        return sort == 0 ? x.book(at, 0) : sort == 1 ? x.deed(at, NONE, 0) : x.fact(at, NONE, 0);
    }

    /** What a text of a sort on a new object is answered by, and that there is one of it then only without a FAULT. */
    private static ReadAloud told(int sort, String text, int fault, int place) {
        ReadAloud x = new ReadAloud();
        due(tell(x, sort, text), fault == 0 ? 0 : NONE);
        due(x.fault(0), fault);
        due(x.fault(1), place);
        due(x.count(sort), fault == 0 ? 1 : 0);
        return x;
    }

    private static ReadAloud fine(int sort, String text) {
        return told(sort, text, 0, NONE);
    }

    /** How many bytes the tape has; the tape stays as it is. */
    private static int length(ReadAloud x) {
        for (int n = 600; n > 580; n--) {
            if (x.end(n) == n) {
                return n;
            }
        }
        int behind = x.feed(0, 0, 0, 0, 0);
        x.end(behind - 20);
        return behind - 20;
    }

    // ---- the tape

    private static void feeding() {
        says("twenty bytes come behind it, of each number the highest first");
        ReadAloud x = new ReadAloud();
        due(x.feed(0x74657874, 0x20302031, 0x20322033, 0x20322031, 0x3b6b696e), 20);
        due(x.feed(0x20332032, 0x3b726561, 0x6465723b, 0x7475726e, 0x3b0a2020), 40);
        due(x.text(0, NONE), 0);
        due(x.book(0, 0), n("012321"));
        due(x.book(0, 13), 2);
        due(x.book(0, 30), 4);
        for (int at = 0; at < 20; at++) {
            // A byte with the highest bit is no blank, letter, digit: it is where it was put.
            for (int b : new int[] {128, 128 + 10, 128 + 32, 128 + ';', 255}) {
                told(0, " ".repeat(at) + (char) b + " ".repeat(19 - at), 1, at);
            }
        }
        says("how many it has");
        x = new ReadAloud();
        for (int have = 20; have <= 600; have += 20) {
            due(x.feed(MIN, MAX, -1, 0, 1), have);
        }
        says("NONE, and nothing comes, if there would be more than 600.");
        due(x.feed(MIN, MAX, -1, 0, 1), NONE);
        due(length(x), 600);
        for (int have = 579; have <= 600; have++) {
            x = new ReadAloud();
            put(x, " ".repeat(have));
            due(x.feed(-1, -1, -1, -1, -1), have > 580 ? NONE : have + 20);
            due(length(x), have > 580 ? have : have + 20);
            // The bytes that would have come are none of any text.
            due(x.text(0, NONE), have > 580 ? 0 : NONE);
        }
    }

    private static void full() {
        says("THE TAPE has at most 600 bytes.");
        due(fine(0, " ".repeat(593) + "reader;").book(0, 1), 1);
        told(0, " ".repeat(594) + "reader", 1, 600);
        told(0, " ".repeat(599) + ";", 1, 599);
        told(0, "turn;" + " ".repeat(595), 4, 0);
        told(0, "text " + "0".repeat(595), 1, 5);
        told(0, "x".repeat(600), 1, 0);
        told(0, ";".repeat(600), 1, 0);
        told(0, "text;".repeat(120), 0, NONE);
        told(2, "seen 9" + " 3".repeat(6) + " ".repeat(581) + ";", 0, NONE);
        told(2, "seen 9" + " 3".repeat(297), 1, 600);
        told(2, "seen 9" + " 3".repeat(296) + "\n;", 3, 6 + 2 * 6 + 1);
    }

    private static void cutting() {
        says("The tape has its first n bytes alone: n.");
        ReadAloud x = new ReadAloud();
        put(x, "text 0 1 2;");
        due(x.end(11), 11);
        due(x.end(4), 4);
        due(feed(x, " 3;", 0), 24);
        due(x.end(7), 7);
        due(x.text(0, NONE), 0);
        due(x.book(0, 0), n("3"));
        put(x, "reader;");
        due(x.end(0), 0);
        due(x.text(0, NONE), 1);
        due(x.book(1, 1), 0);
        says("NONE if it has not so many, or n is below 0.");
        for (int have : new int[] {0, 1, 7, 20, 599, 600}) {
            for (int n : new int[] {have + 1, MAX, -1, MIN}) {
                x = new ReadAloud();
                put(x, " ".repeat(have));
                due(x.end(n), NONE);
                due(length(x), have);
                due(x.end(have), have);
            }
        }
        // The bytes that were cut off are not there again for a higher n.
        x = new ReadAloud();
        put(x, "text 3;");
        due(x.end(5), 5);
        due(x.end(7), NONE);
        due(x.end(6), NONE);
        due(x.text(0, NONE), NONE);
        due(x.fault(1), 5);
    }

    // ---- text(), count()

    private static ReadAloud having(int sort, int many) {
        ReadAloud x = new ReadAloud();
        for (int i = 0; i < many; i++) {
            due(tell(x, sort, ""), i);
        }
        return x;
    }

    private static void refusedTelling(ReadAloud x, int sort, int at, String text) {
        int[] counts = {x.count(0), x.count(1), x.count(2)};
        // A FAULT of the text before must not be seen any more.
        tell(x, 1, "seal 9;");
        put(x, text);
        due(x.text(sort, at), NO_SUCH);
        due(x.fault(0), 0);
        due(x.fault(1), NONE);
        due(length(x), 0);
        for (int other = 0; other < 3; other++) {
            due(x.count(other), counts[other]);
            for (int i = 0; i < counts[other]; i++) {
                due(seen(x, other, i), 0);
            }
        }
    }

    private static void further(int sort) {
        says("a further one (at NONE)");
        ReadAloud x = new ReadAloud();
        for (int i = 0; i < 2; i++) {
            due(x.count(sort), i);
            due(tell(x, sort, i == 0 ? "" : GOOD[sort]), i);
            due(length(x), 0);
        }
        due(seen(x, sort, 0), 0);
        due(seen(x, sort, 1), SEEN[sort]);
        for (int other = 0; other < 3; other++) {
            due(x.count(other), other == sort ? 2 : 0);
        }
        says("or in the place of one: its number");
        due(tell(x, sort, 0, GOOD[sort]), 0);
        due(seen(x, sort, 0), SEEN[sort]);
        due(tell(x, sort, 1, ""), 1);
        due(length(x), 0);
        due(seen(x, sort, 0), SEEN[sort]);
        due(seen(x, sort, 1), 0);
        due(x.count(sort), 2);
        x = having(sort, 1);
        due(tell(x, sort, 0, GOOD[sort]), 0);
        due(seen(x, sort, 0), SEEN[sort]);
        due(x.count(sort), 1);
    }

    private static void refused(int sort) {
        for (int many = 0; many <= 2; many++) {
            says("-2: there is none such");
            for (int at : new int[] {many, many + 1, NO_SUCH, MIN, MAX}) {
                refusedTelling(having(sort, many), sort, at, GOOD[sort]);
                refusedTelling(having(sort, many), sort, at, "bad");
            }
            says("or no such sort");
            for (int none : NO_SORTS) {
                refusedTelling(having(sort, many), none, NONE, GOOD[sort]);
                refusedTelling(having(sort, many), none, 0, "bad");
            }
        }
        says("there are as many as may be");
        refusedTelling(having(sort, 2), sort, NONE, GOOD[sort]);
        refusedTelling(having(sort, 2), sort, NONE, "bad");
        refusedTelling(having(sort, 2), sort, NONE, "");
    }

    private static void faulty(int sort) {
        says("NONE: a FAULT.");
        String[] bad = {GOOD[sort] + "#", "text 4;", "seal 4;", "seen 10;", "bad", "turn;"};
        for (String text : bad) {
            ReadAloud x = new ReadAloud();
            due(tell(x, sort, text), NONE);
            due(length(x), 0);
            due(x.count(sort), 0);
            due(tell(x, sort, GOOD[sort]), 0);
            for (int at = NONE; at <= 0; at++) {
                due(tell(x, sort, at, text), NONE);
                due(x.fault(0) > 0, true);
                due(length(x), 0);
                due(x.count(sort), 1);
                due(seen(x, sort, 0), SEEN[sort]);
            }
        }
    }

    private static void counting() {
        says("How many there are of a sort.");
        for (int sort = 0; sort < 3; sort++) {
            for (int many = 0; many <= 2; many++) {
                ReadAloud x = having(sort, many);
                for (int other = 0; other < 3; other++) {
                    due(x.count(other), other == sort ? many : 0);
                }
            }
        }
        says("-2 for another one.");
        for (int none : NO_SORTS) {
            due(new ReadAloud().count(none), NO_SUCH);
            due(having(0, 2).count(none), NO_SUCH);
        }
    }

    // ---- fault()

    private static void faults() {
        says("the FAULT, 0 without, 1: its place, NONE without.");
        ReadAloud x = new ReadAloud();
        due(x.fault(0), 0);
        due(x.fault(1), NONE);
        tell(x, 0, " text 4;");
        due(x.fault(0), 2);
        due(x.fault(1), 6);
        says("Of the latest text()");
        put(x, "text 0;");
        x.end(3);
        x.book(0, 0);
        x.image(0);
        due(x.text(0, NONE), NONE);
        due(x.fault(0), 1);
        due(x.fault(1), 0);
        due(x.again(2), false);
        due(x.fault(0), 1);
        due(x.again(0), true);
        due(x.fault(0), 2);
        due(x.fault(1), 6);
        due(tell(x, 0, ""), 0);
        due(x.fault(0), 0);
        due(x.fault(1), NONE);
        says("NONE for another what.");
        for (int k = 0; k < 2; k++) {
            for (int what : new int[] {-1, 2, MIN, MAX}) {
                due(x.fault(what), NONE);
            }
            tell(x, 0, "text 4;");
        }
    }

    // ---- tokens

    private static boolean isLetter(int b) {
        return b >= 'a' && b <= 'z';
    }

    private static boolean isDigit(int b) {
        return b >= '0' && b <= '9';
    }

    private static void bytes() {
        says("TOKENS, as long as they go, blanks (10, 32) between: words, rows of letters a .. z; NUMBERS, 1 or 2 digits; ; one byte.");
        for (int b = 0; b < 256; b++) {
            char c = (char) b;
            boolean blank = b == 10 || b == 32;
            told(0, c + "reader;", blank ? 0 : 1, blank ? NONE : 0);
            told(0, c + "", blank ? 0 : 1, blank ? NONE : 0);
            told(0, "text " + c, 1, isDigit(b) || blank ? 6 : b == ';' ? NONE : 5, b == ';');
            String text = "text" + c + ";";
            if (blank || b >= '0' && b <= '3') {
                due(fine(0, text).book(0, 0), blank ? 0 : b - '0' + 1);
            } else if (isDigit(b)) {
                told(0, text, 2, 4);
            } else {
                told(0, text, 1, isLetter(b) ? 0 : b == ';' ? 5 : 4);
            }
            told(0, "text;" + c, 1, blank ? NONE : 5, blank);
        }
    }

    private static void told(int sort, String text, int fault, int place, boolean fine) {
        told(sort, text, fine ? 0 : fault, fine ? NONE : place);
    }

    private static void tokens() {
        says("NUMBERS, 1 or 2 digits");
        due(fine(0, "text 3;").book(0, 0), n("3"));
        due(fine(0, "text 03;").book(0, 0), n("3"));
        due(fine(0, "text 00 0;").book(0, 0), n("00"));
        says("a longer row of digits is no token");
        told(0, "text 003;", 1, 5);
        told(0, "text 000;", 1, 5);
        told(0, "text 999;", 1, 5);
        told(0, "text 4 3 0000 4;", 1, 9);
        told(0, "text 0\n0000000000;", 1, 7);
        told(0, "000", 1, 0);
        told(0, "kin 012;", 1, 4);
        told(0, "reader 123;", 1, 7);
        told(0, "text 123", 1, 5);
        says("TOKENS, as long as they go");
        due(fine(0, "text01;").book(0, 0), n("1"));
        due(fine(0, "text0 1;").book(0, 0), n("01"));
        due(fine(0, "kin3 2;").book(0, 13), 2);
        told(0, "kin 32;", 1, 6);
        told(0, "readerturn;", 1, 0);
        told(0, "reader turn;", 1, 7);
        told(0, "re ader;", 1, 0);
        told(0, "reade;", 1, 0);
        told(0, "readers;", 1, 0);
        told(0, "te\nxt;", 1, 0);
        due(fine(0, "reader;turn;reader;").book(0, 1), 2);
        due(fine(0, "\n\nreader \n ;\n turn\n;\n").book(0, 20), 1);
        due(fine(1, "read\n0\n4\n;").deed(0, 0, 2), 4);
        told(0, "text 1 0 12;", 2, 9);
        told(0, "text 1 0 1 2;", 0, NONE);
    }

    // ---- the lines of each sort

    private static final String[][] HEADS = {
        {"text", "kin", "reader", "shift", "drop", "double", "swap", "turn"}, {"read", "copy", "seal", "restore", "hush", "day"}, {"seen"}};
    private static final int[][] FEWEST = {{0, 2, 0, 1, 1, 1, 1, 0}, {2, 2, 1, 1, 1, 0}, {1}};
    private static final int[][] MOST = {{6, 2, 0, 1, 1, 1, 1, 0}, {2, 2, 1, 1, 1, 0}, {7}};

    private static String before(int sort, int head) {
        return sort == 0 && head > 2 ? "reader;" : "";
    }

    private static void shapes() {
        says("A BOOK's text: ... A YEAR's text: ... A SIGHT's text: ...");
        for (int sort = 0; sort < 3; sort++) {
            for (int head = 0; head < HEADS[sort].length; head++) {
                String start = before(sort, head) + HEADS[sort][head];
                int fewest = FEWEST[sort][head];
                int most = MOST[sort][head];
                for (int many = 0; many <= most + 2; many++) {
                    String line = start + " 1 2 1 2 1 2 1 2 1".substring(0, 2 * many);
                    // In the place of the ';': it ends there, a further line begins there, a byte that is none.
                    told(sort, line, 1, many > most && most < 6 ? start.length() + 2 * most + 1 : line.length());
                    if (many < fewest) {
                        told(sort, line + ";", 1, line.length());
                    } else if (many <= most) {
                        fine(sort, line + ";");
                        fine(sort, line + " ; ");
                        told(sort, line + ";;", 1, line.length() + 1);
                        told(sort, line + ";1;", 1, line.length() + 1);
                        told(sort, line + " day;", 1, line.length() + 1);
                        told(sort, line + " #;", 1, line.length() + 1);
                        told(sort, line + "\n" + HEADS[sort][0] + ";", 1, line.length() + 1);
                    } else {
                        told(sort, line + ";", most < 6 ? 1 : 3, start.length() + 2 * most + 1);
                    }
                }
            }
        }
    }

    private static void letters() {
        says("1 the first byte or token with which no text goes on");
        for (int sort = 0; sort < 3; sort++) {
            for (int head = 0; head < HEADS[sort].length; head++) {
                String word = HEADS[sort][head];
                String rest = " 1 2".substring(0, 2 * Math.min(2, FEWEST[sort][head])) + ";";
                String front = before(sort, head);
                fine(sort, front + word + rest);
                for (int i = 0; i < word.length(); i++) {
                    told(sort, front + word.substring(0, i) + "z" + word.substring(i + 1) + rest, 1, front.length());
                    told(sort, front + word.substring(0, i) + word.substring(i + 1) + rest, 1, front.length());
                    told(sort, front + word.substring(0, i) + "z" + word.substring(i) + rest, 1, front.length());
                    told(sort, front + word.substring(0, i) + Character.toUpperCase(word.charAt(i)) + word.substring(i + 1) + rest, 1, front.length());
                }
            }
        }
    }

    private static void empties() {
        for (int sort = 0; sort < 3; sort++) {
            for (String text : new String[] {"", " ", "\n", " \n \n"}) {
                ReadAloud x = fine(sort, text);
                due(seen(x, sort, 0), 0);
            }
            told(sort, ";", 1, 0);
            told(sort, " ;", 1, 1);
            told(sort, "1;", 1, 0);
            for (int other = 0; other < 3; other++) {
                for (String head : HEADS[other]) {
                    if (other != sort) {
                        told(sort, head + ";", 1, 0);
                        told(sort, GOOD[sort] + "\n" + head + " 1;", 1, GOOD[sort].length() + 1);
                    }
                }
            }
        }
    }

    // ---- FAULT 2

    /** The NUMBERS of a place in a line, 0 .. 99, as one digit and as two. */
    private static void numbers(int sort, String start, String rest, int least, int most) {
        for (int v = 0; v < 100; v++) {
            boolean can = v >= least && v <= most;
            told(sort, start + v + rest, can ? 0 : 2, can ? NONE : start.length());
            if (v < 10) {
                told(sort, start + "0" + v + rest, can ? 0 : 2, can ? NONE : start.length());
            }
        }
    }

    private static void numbersThatCan() {
        says("2 a NUMBER that can't be");
        for (int k = 0; k < 6; k++) {
            numbers(0, "text " + "3 ".repeat(k), " 0".repeat(5 - k) + ";", 0, 3);
            numbers(2, "seen 9 " + "3 ".repeat(k), " 0".repeat(5 - k) + ";", 0, 3);
        }
        numbers(0, "kin ", " 0;", 0, 3);
        numbers(0, "kin 0 ", ";", 0, 3);
        numbers(0, "reader;shift ", ";", 0, 3);
        numbers(0, "reader;drop ", ";", 1, 6);
        numbers(0, "reader;double ", ";", 1, 6);
        numbers(0, "reader;swap ", ";", 1, 6);
        numbers(1, "read ", " 0;", 0, 3);
        numbers(1, "read 0 ", ";", 0, 4);
        numbers(1, "seal ", ";", 0, 3);
        numbers(1, "restore ", ";", 0, 3);
        numbers(1, "hush ", ";", 0, 3);
        numbers(2, "seen ", ";", 0, 9);
        numbers(2, "seen ", " 0 3;", 0, 9);
        says("of copy the second COPY, if it is the first");
        for (int one = 0; one < 6; one++) {
            for (int other = 0; other < 6; other++) {
                boolean can = one < 4 && other < 4 && one != other;
                told(1, "copy " + one + " " + other + ";", can ? 0 : 2, can ? NONE : one < 4 ? 7 : 5);
                told(1, "copy 0" + one + "  " + other + ";", can ? 0 : 2, can ? NONE : one < 4 ? 9 : 5);
            }
        }
        fine(1, "read 1 1;");
        fine(0, "kin 1 1;");
    }

    // ---- FAULT 3

    private static void tooMany() {
        says("a 7th WORD of a TEXT");
        due(fine(0, "text 3 3 3 3 3 3;").book(0, 0), 5460);
        told(0, "text 3 3 3 3 3 3 3;", 3, 17);
        told(0, "text 3 3 3 3 3 3 3 3 3;", 3, 17);
        told(0, "text 0\n3 3 3 03 3   3;", 3, 20);
        due(fine(2, "seen 9 3 3 3 3 3 3;").fact(0, 0, 1), 5460);
        told(2, "seen 9 3 3 3 3 3 3 3;", 3, 19);
        told(2, "seen 9;seen 0 3 3 3 3 3 3 3 3;", 3, 26);
        says("a 6th READER");
        due(fine(0, many("reader;", 5)).book(0, 1), 5);
        told(0, many("reader;", 6), 3, 35);
        told(0, many("reader;", 5) + "turn; \nreader;", 3, 42);
        told(0, many("reader;", 7), 3, 35);
        says("a 5th STEP of a READER");
        String[] steps = {"shift 0;", "drop 1;", "double 6;", "swap 3;", "turn;"};
        for (int i = 0; i < 5; i++) {
            for (int readers = 1; readers <= 5; readers++) {
                String four = steps[(i + 1) % 5] + steps[(i + 2) % 5] + steps[(i + 3) % 5] + steps[(i + 4) % 5];
                String all = many("reader;" + four, readers);
                due(fine(0, all).book(0, 19 + readers), 4);
                told(0, all + steps[i], 3, all.length());
                told(0, all + "text;\n" + steps[i] + steps[i], 3, all.length() + 6);
                // Four of one READER and four of the next are not too many.
                fine(0, all + (readers < 5 ? "reader;" + steps[i] : "kin 0 0;"));
            }
        }
        says("a 41st DEED");
        String[] deeds = {"read 0 0;", "copy 0 1;", "seal 1;", "restore 2;", "hush 3;", "day;"};
        for (String deed : deeds) {
            String all = many(deed, 40);
            due(fine(1, all).deed(0, NONE, 0), 40);
            told(1, all + deed, 3, all.length());
            told(1, many("day;", 39) + deed, 0, NONE);
            told(1, many("day;", 40) + "\n " + deed + deed, 3, 162);
        }
        says("a 7th FACT");
        due(fine(2, many("seen 0;", 6)).fact(0, NONE, 0), 6);
        told(2, many("seen 0;", 7), 3, 42);
        told(2, many("seen 0;", 6) + " \n seen 9 3;seen 0;", 3, 45);
    }

    private static void stepsAhead() {
        says("4 a STEP ahead of all READERS, at its first token.");
        for (String step : new String[] {"shift 0;", "drop 1;", "double 6;", "swap 3;", "turn;"}) {
            told(0, step, 4, 0);
            told(0, "\n " + step + "reader;", 4, 2);
            told(0, "text 0;kin 0 1; " + step, 4, 16);
            fine(0, "reader;" + step);
            told(0, many(step, 6), 4, 0);
        }
        fine(0, "text 0;kin 0 1;");
    }

    private static void order() {
        says("If there is none, the first by place");
        told(0, "text 4;turn;" + many("reader;", 6) + "text", 1, 58);
        told(0, "text 4;text 5;", 2, 5);
        told(0, "text 4;turn;", 2, 5);
        told(0, "turn;text 4;", 4, 0);
        told(0, "turn;" + many("reader;", 6), 4, 0);
        told(0, many("reader;", 6) + "text 4;", 3, 35);
        told(0, "text 4;" + many("reader;", 6), 2, 5);
        told(0, "drop 7;", 4, 0);
        told(0, "reader;turn;turn;turn;turn;drop 7;", 3, 27);
        told(0, "reader;turn;turn;turn;drop 7;turn;", 2, 27);
        told(1, many("day;", 40) + "copy 1 1;", 3, 160);
        told(1, many("day;", 39) + "copy 1 1;day;", 2, 163);
        told(2, many("seen 0;", 6) + "seen 10;", 3, 42);
        told(2, many("seen 0;", 5) + "seen 10;seen 0;", 2, 40);
        told(1, "seal 4;copy 4 4;", 2, 5);
        told(1, "copy 4 4;", 2, 5);
        says("of one place the least");
        told(0, "text 0 0 0 0 0 0 4;", 2, 17);
        told(0, "text 0 0 0 0 0 0 3 4;", 3, 17);
        told(0, "text 0 0 0 0 0 4 0;", 2, 15);
        told(2, "seen 0 0 0 0 0 0 0 4;", 2, 19);
        told(2, "seen 0 0 0 0 0 0 0 0 4;", 3, 19);
        says("1 the first byte or token with which no text goes on");
        told(0, "text 4;#", 1, 7);
        told(0, "text 4;text 0 #;text;", 1, 14);
        told(0, "turn;text", 1, 9);
        told(1, "hush 4;hush;", 1, 11);
        told(1, many("day;", 41) + "days;", 1, 164);
        told(2, "seen 10;seen;", 1, 12);
        told(0, "text # #;", 1, 5);
        says("the end's");
        told(0, "text", 1, 4);
        told(0, "text  ", 1, 6);
        told(0, "kin 0 1", 1, 7);
        told(0, "kin 0", 1, 5);
        told(0, "kin\n", 1, 4);
        told(1, "read 0 0\n", 1, 9);
        told(1, "day", 1, 3);
        told(2, "seen", 1, 4);
        told(2, "seen 1 ", 1, 7);
    }

    // ---- later lines

    private static void striking() {
        says("Later ones strike (text, kin)");
        due(fine(0, "text 1 2;text 3;").book(0, 0), n("3"));
        due(fine(0, "text 1 2;text;").book(0, 0), 0);
        due(fine(0, "text;text 1 2;reader;turn;text 3 3 3 3 3 3;").book(0, 0), 5460);
        due(fine(0, "text 0 0 0 0;text 0 0 0 0;").book(0, 0), n("0000"));
        ReadAloud x = fine(0, "kin 0 1;kin 0 2;kin 3 0;kin 3 3;kin 1 2;");
        int[] kin = {2, 2, 2, 3};
        for (int w = 0; w < 4; w++) {
            due(x.book(0, 10 + w), kin[w]);
        }
        told(0, "text 4;text 0;", 2, 5);
        told(0, "text 0 0 0 0 0 0 0;text;", 3, 17);
        told(0, "kin 0 4;kin 0 1;", 2, 6);
        says("but READERS, STEPS, DEEDS, FACTS, which are further ones.");
        x = fine(0, "reader;turn;turn;reader;turn;reader;");
        due(x.book(0, 1), 3);
        due(x.book(0, 20), 2);
        due(x.book(0, 21), 1);
        due(x.book(0, 22), 0);
        due(fine(1, "day;day;seal 0;seal 0;").deed(0, NONE, 0), 4);
        due(fine(2, "seen 1 0;seen 1 0;seen 1 2;").fact(0, NONE, 0), 3);
        says("A BOOK has a TEXT (empty at first); KIN of each WORD (itself at first)");
        x = fine(0, "reader;");
        due(x.book(0, 0), 0);
        for (int w = 0; w < 4; w++) {
            due(x.book(0, 10 + w), w);
        }
        says("in the place of one");
        // Nothing of the one that was there before is left.
        x = with("text 1;kin 0 1;reader;turn;");
        due(tell(x, 0, 0, ""), 0);
        due(x.book(0, 0), 0);
        due(x.book(0, 1), 0);
        due(x.book(0, 10), 0);
        due(x.book(0, 20), NONE);
    }

    // ---- images

    private static ReadAloud rich() {
        ReadAloud x = new ReadAloud();
        for (int sort = 0; sort < 3; sort++) {
            due(tell(x, sort, GOOD[sort]), 0);
        }
        due(tell(x, 0, " text 4;"), NONE);
        put(x, "text 2 2;");
        return x;
    }

    private static void isRich(ReadAloud x) {
        for (int sort = 0; sort < 3; sort++) {
            due(x.count(sort), 1);
            due(seen(x, sort, 0), SEEN[sort]);
        }
        due(x.fault(0), 2);
        due(x.fault(1), 6);
        due(length(x), 9);
    }

    private static void images() {
        says("no images");
        for (int k = 0; k < 3; k++) {
            due(new ReadAloud().again(k), false);
        }
        says("false for another k");
        for (int k : new int[] {-1, 3, MIN, MAX}) {
            ReadAloud x = rich();
            due(x.image(k), false);
            for (int j = 0; j < 3; j++) {
                due(x.again(j), false);
            }
            says("false if there is none such.");
            due(x.again(k), false);
            isRich(x);
        }
        says("Image k (0 .. 2) is all that is told (the tape, the FAULT, too), as it is now: true");
        for (int k = 0; k < 3; k++) {
            ReadAloud x = rich();
            due(x.image(k), true);
            isRich(x);
            for (int j = 0; j < 3; j++) {
                if (j != k) {
                    due(x.again(j), false);
                    isRich(x);
                }
            }
            due(x.text(0, 0), 0);
            for (int sort = 0; sort < 3; sort++) {
                due(tell(x, sort, ""), 1);
                due(tell(x, sort, 0, ""), 0);
            }
            put(x, "reader;turn;reader;turn;reader;");
            says("All that is as image k has it: true");
            due(x.again(k), true);
            isRich(x);
            due(x.text(0, NONE), 1);
            due(x.book(1, 0), n("22"));
            due(x.again(k), true);
            isRich(x);
        }
    }

    private static void manyImages() {
        says("Image k (0 .. 2) is all that is told");
        ReadAloud x = new ReadAloud();
        due(x.image(0), true);
        due(tell(x, 0, "text 1;"), 0);
        due(x.image(1), true);
        due(tell(x, 0, "text 2;"), 1);
        put(x, " ".repeat(600));
        due(x.image(2), true);
        for (int k : new int[] {0, 1, 2, 1, 0, 2, 0}) {
            due(x.again(k), true);
            due(x.count(0), k);
            due(x.book(0, 0), k > 0 ? n("1") : NONE);
            due(x.book(1, 0), k > 1 ? n("2") : NONE);
            due(length(x), k == 2 ? 600 : 0);
        }
        // An image of an image; and one in the place of one.
        due(x.again(1), true);
        due(x.image(2), true);
        due(x.image(0), true);
        due(x.again(2), true);
        due(x.count(0), 1);
        due(tell(x, 0, 0, "text 3;"), 0);
        due(x.again(0), true);
        due(x.book(0, 0), n("1"));
        // All places are free again that were free then.
        due(tell(x, 0, "text 3 3;"), 1);
        due(tell(x, 0, "text 3 3;"), NO_SUCH);
        due(x.again(1), true);
        due(tell(x, 0, "text 3 2;"), 1);
        due(x.book(1, 0), n("32"));
        // Answers are of the BOOK that is there, not of one that was asked before.
        x = with("text 0 1;reader;turn;");
        due(x.image(0), true);
        due(x.reach(0, n("01"), false), 2);
        due(tell(x, 0, 0, "text 0 1;reader;drop 1;"), 0);
        due(x.reach(0, n("01"), false), 3);
        due(x.image(1), true);
        due(x.again(0), true);
        due(x.reach(0, n("01"), false), 2);
        due(x.again(1), true);
        due(x.reach(0, n("01"), false), 3);
    }

    public static void main(String[] args) {
        feeding();
        full();
        cutting();
        for (int sort = 0; sort < 3; sort++) {
            further(sort);
            refused(sort);
            faulty(sort);
        }
        counting();
        faults();
        bytes();
        tokens();
        shapes();
        letters();
        empties();
        numbersThatCan();
        tooMany();
        stepsAhead();
        order();
        striking();
        images();
        manyImages();
        finish();
    }
}
