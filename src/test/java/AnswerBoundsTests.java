/** Each sentence of the document that names a boundary of what is answered: the empty and the full one, first and last. */
public final class AnswerBoundsTests extends Kit {
    private static final String LONGEST = "012301";
    private static final String FULL = "text 0 1 2 3 0 1;";
    private static final String DROPS = FULL + "reader;drop 1;";
    // Five READERS, each of whom changes two neighbours: of a TEXT come all orders of its WORDS.
    private static final String SWAPS = FULL + "reader;swap 1;reader;swap 2;reader;swap 3;reader;swap 4;reader;swap 5;";

    // Any order of the WORDS, any of them twice, any dropped: of a TEXT come all TEXTS of some of its WORDS.
    private static final String ANYHOW = "reader;double 1;reader;swap 1;reader;swap 1;swap 2;swap 3;swap 4;reader;swap 5;reader;drop 1;";
    // How many TEXTS there are of one certain WORD, of two, three, four, each of them being there.
    private static final int[] OF_WORDS = {1, 6, 114, 732, 1824};

    // ---- Terms 1

    private static void numbers() {
        says("0 the empty one, 1 .. 4 those of one WORD, and so on, to 5460.");
        ReadAloud x = new ReadAloud();
        due(x.word(0, NONE), 0);
        int number = 1;
        for (int length = 1; length <= 6; length++) {
            for (int figures = 0; figures < 1 << 2 * length; figures++) {
                x = number % 50 == 0 ? new ReadAloud() : x;
                due(x.word(number, NONE), length);
                for (int k = 0; k < length; k++) {
                    due(x.word(number, k), figures >> 2 * (length - 1 - k) & 3);
                }
                due(x.word(number, length), NONE);
                number++;
            }
        }
        due(number, TEXTS);
        due(x.word(number, NONE), NONE);
        says("the first WORD the highest figure");
        due(n("3000"), 85 + 3 * 64);
        x = new ReadAloud();
        due(tell(x, 0, "text 3 0 0 0;"), 0);
        due(x.book(0, 0), n("3000"));
    }

    private static void drifts() {
        says("the fewest WORDS put in, taken out, or put in the place of others, that make the one of the other.");
        ReadAloud x = new ReadAloud();
        for (int length = 0; length <= 6; length++) {
            int t = n(LONGEST.substring(0, length));
            due(x.drift(t, t), 0);
            due(x.drift(t, 0), length);
            due(x.drift(0, t), length);
            due(x.drift(n(LONGEST), t), 6 - length);
            due(x.drift(n("333333"), n("222222".substring(0, length))), 6);
            for (int k = 0; k <= length; k++) {
                String front = LONGEST.substring(0, k);
                String behind = LONGEST.substring(k, length);
                if (length < 6) {
                    due(x.drift(t, n(front + "3" + behind)), 1);
                    due(x.drift(n(front + "0" + behind), t), 1);
                }
                if (k < length) {
                    due(x.drift(t, n(front + behind.substring(1))), 1);
                    due(x.drift(n(front + (char) ('0' + (behind.charAt(0) - '0' + 1) % 4) + behind.substring(1)), t), 1);
                }
            }
        }
        due(x.drift(n("01"), n("10")), 2);
        due(x.drift(n("0123"), n("3210")), 4);
        due(x.drift(n("012"), n("120")), 2);
        due(x.drift(n("0"), n("303333")), 5);
        due(x.drift(n("012301"), n("301230")), 2);
    }

    private static ReadAloud reading(String steps) {
        return with("kin 0 1;kin 1 2;kin 2 1;reader;" + steps);
    }

    private static void places() {
        for (int k = 1; k <= 6; k++) {
            ReadAloud drop = reading("drop " + k + ";");
            ReadAloud twice = reading("double " + k + ";");
            ReadAloud swap = reading("swap " + k + ";");
            for (int length = 0; length <= 6; length++) {
                String t = LONGEST.substring(0, length);
                boolean there = k <= length;
                says("the k-th WORD falls out, if there is one");
                due(drop.read(0, n(t), 0), there ? n(t.substring(0, k - 1) + t.substring(k)) : n(t));
                says("the k-th is there twice then, if there is one and there are fewer than 6");
                due(twice.read(0, n(t), 0), there && length < 6 ? n(t.substring(0, k) + t.substring(k - 1)) : n(t));
                says("the k-th and the next one change places, if both are there");
                due(swap.read(0, n(t), 0), k < length ? n(t.substring(0, k - 1) + t.charAt(k) + t.charAt(k - 1) + t.substring(k + 1)) : n(t));
            }
        }
    }

    private static void steps() {
        says("SHIFT a WORD: all such become its KIN");
        for (int length = 0; length <= 6; length++) {
            due(reading("shift 0;").read(0, n("0".repeat(length)), 0), n("1".repeat(length)));
            due(reading("shift 1;").read(0, n("0".repeat(length)), 0), n("0".repeat(length)));
            due(reading("shift 3;").read(0, n("3".repeat(length)), 0), n("3".repeat(length)));
        }
        due(reading("shift 0;").read(0, n("010010"), 0), n("111111"));
        due(reading("shift 1;").read(0, n("121212"), 0), n("222222"));
        due(reading("shift 2;").read(0, n("021320"), 0), n("011310"));
        says("TURN: the TEXT is turned about");
        for (int length = 0; length <= 6; length++) {
            String t = LONGEST.substring(0, length);
            due(reading("turn;").read(0, n(t), 0), n(new StringBuilder(t).reverse().toString()));
        }
        says("A reading of a TEXT by a READER: all his STEPS, one behind the other.");
        due(reading("").read(0, n(LONGEST), 0), n(LONGEST));
        due(reading("drop 6;double 5;drop 1;swap 1;").read(0, n(LONGEST), 0), n("21300"));
        due(reading("double 5;drop 6;drop 1;swap 1;").read(0, n(LONGEST), 0), n("2130"));
        due(reading("shift 0;shift 1;shift 2;shift 1;").read(0, n("0123"), 0), n("2223"));
        due(reading("turn;drop 1;turn;drop 1;").read(0, n("01"), 0), 0);
        due(reading("drop 1;drop 1;drop 1;drop 1;").read(0, n("012"), 0), 0);
        due(reading("double 1;double 1;double 1;double 1;").read(0, n("012"), 0), n("000012"));
    }

    // ---- Terms 2

    private static ReadAloud year(String book, String deeds) {
        ReadAloud x = with(book);
        due(tell(x, 1, deeds), 0);
        return x;
    }

    private static void beginning() {
        says("begins on day 0, four COPIES having its TEXT, COPY 0 being SEALED, nothing HUSHED, nothing read.");
        for (String book : new String[] {"", "text 3;", SWAPS}) {
            ReadAloud x = year(book, "");
            due(x.stop(0, 0), 0);
            for (int what = 0; what <= 5; what++) {
                due(x.state(0, 0, 0, what), 0);
                due(x.drawn(0, 77, 0, what), 0);
            }
            for (int c = 0; c < 4; c++) {
                due(x.state(0, 0, 0, 10 + c), x.book(0, 0));
                due(x.drawn(0, 77, 0, 10 + c), x.book(0, 0));
            }
            for (int r = 0; r < 5; r++) {
                due(x.state(0, 0, 0, 20 + r), r < x.book(0, 1) ? 0 : NO_SUCH);
                due(x.drawn(0, 77, 0, 20 + r), r < x.book(0, 1) ? 0 : NO_SUCH);
            }
            due(x.state(0, 0, 1, 0), NO_SUCH);
        }
    }

    private static void readers() {
        says("A DEED can't be, if there is no such READER");
        for (int there = 0; there <= 5; there++) {
            ReadAloud x = with("text 2;" + many("reader;drop 1;", there));
            due(tell(x, 1, "day;read 3 0;day;"), 0);
            due(x.stop(0, 0), there > 0 ? 3 : 1);
            due(x.state(0, 0, 1, 0), 1);
            due(x.state(0, 0, 2, 13), there > 0 ? 0 : NO_SUCH);
            for (int reader = 0; reader < 5; reader++) {
                due(tell(x, 1, 0, "read 0 " + reader + ";day;"), 0);
                due(x.stop(0, 0), reader < there ? 2 : 0);
                due(x.state(0, 0, 0, 10), n("2"));
                due(x.state(0, 0, 1, 10), reader < there ? 0 : NO_SUCH);
                due(x.state(0, 0, 1, 20 + reader), reader < there ? 1 : NO_SUCH);
                due(x.state(0, 0, 2, 0), reader < there ? 1 : NO_SUCH);
                due(x.state(0, 0, 3, 0), NO_SUCH);
            }
        }
    }

    private static void hushing() {
        says("if it is HUSHED, its TEXT stays, and it is HUSHED no more.");
        ReadAloud x = year(DROPS, "hush 2;read 2 0;read 2 0;hush 0;hush 1;hush 2;hush 3;read 1 0;read 0 0;");
        int[] hushed = {0, 4, 0, 0, 1, 3, 7, 15, 13, 12};
        int[] second = {6, 6, 6, 5, 5, 5, 5, 5, 5, 5};
        for (int n = 0; n <= 9; n++) {
            due(x.state(0, 0, n, 5), hushed[n]);
            due(x.word(x.state(0, 0, n, 12), NONE), second[n]);
            due(x.state(0, 0, n, 10), n(LONGEST));
            due(x.state(0, 0, n, 11), n(LONGEST));
        }
        says("20 + r: how often a READER read");
        due(x.state(0, 0, 9, 20), 4);
        says("hush: a COPY that is not HUSHED.");
        for (int c = 0; c < 4; c++) {
            due(year(DROPS, "hush " + c + ";hush " + c + ";day;").stop(0, 0), 1);
            due(year(DROPS, "hush " + c + ";hush " + (c + 1) % 4 + ";day;").stop(0, 0), 3);
            due(year(DROPS, "hush " + c + ";read " + c + " 0;hush " + c + ";hush " + c + ";").stop(0, 0), 3);
            // A reading of another COPY, a copy, a seal, a day leave it HUSHED.
            int other = (c + 1) % 4;
            due(year(DROPS, "hush " + c + ";read " + other + " 0;day;hush " + c + ";").stop(0, 0), 3);
            due(year(DROPS, "hush " + c + ";copy " + other + " " + c + ";copy " + c + " " + other + ";hush " + c + ";").stop(0, 0), 3);
            due(year(DROPS, "hush " + c + ";seal " + c + ";seal " + other + ";restore " + c + ";hush " + c + ";").stop(0, 0), 4);
            due(year(DROPS, "hush " + c + ";copy " + c + " " + other + ";hush " + other + ";").stop(0, 0), 3);
        }
    }

    private static void sealing() {
        says("restore: the COPY has the BOOK's TEXT; it can't be of the SEALED one.");
        for (int c = 0; c < 4; c++) {
            due(year(DROPS, "restore " + c + ";").stop(0, 0), c == 0 ? 0 : 1);
            for (int sealed = 0; sealed < 4; sealed++) {
                ReadAloud x = year(DROPS, "seal " + sealed + ";read " + c + " 0;restore " + c + ";day;");
                due(x.stop(0, 0), c == sealed ? 2 : 4);
                due(x.state(0, 0, 1, 1), sealed);
                due(x.state(0, 0, 2, 10 + c), n("12301"));
                due(x.state(0, 0, 3, 10 + c), c == sealed ? NO_SUCH : n(LONGEST));
            }
        }
        says("seal: that COPY is SEALED.");
        ReadAloud x = year(DROPS, "seal 0;seal 3;seal 3;seal 1;restore 3;restore 0;restore 1;");
        int[] sealed = {0, 0, 3, 3, 1, 1, 1};
        for (int n = 6; n >= 0; n--) {
            due(x.state(0, 0, n, 1), sealed[n]);
        }
        // What was asked of before is no part of it: the day, the SEALED COPY, HUSHED ones.
        for (int what : new int[] {0, 1, 2, 4, 5, 20}) {
            due(x.state(0, 0, 6, 1), 1);
            due(x.state(0, 0, 0, what), 0);
            due(x.state(0, 0, 6, 1), 1);
            due(x.drawn(0, 1, 0, what), 0);
        }
        due(x.stop(0, 0), 6);
        says("copy: the other COPY has the first one's TEXT.");
        for (int one = 0; one < 4; one++) {
            for (int other = 0; other < 4; other++) {
                if (one != other) {
                    x = year(DROPS, "read " + one + " 0;copy " + one + " " + other + ";");
                    due(x.stop(0, 0), 2);
                    for (int c = 0; c < 4; c++) {
                        due(x.state(0, 0, 2, 10 + c), c == one || c == other ? n("12301") : n(LONGEST));
                    }
                }
            }
        }
    }

    private static void stops() {
        says("STOP: the first DEED that can't be, else how many there are.");
        for (int at : new int[] {0, 1, 20, 38, 39}) {
            ReadAloud x = year(DROPS, many("day;", at) + "restore 0;" + many("day;", 39 - at));
            due(x.deed(0, NONE, 0), 40);
            due(x.stop(0, 0), at);
            says("A STATE is behind the first n DEEDS, n up to STOP.");
            due(x.state(0, 0, at, 0), at);
            due(x.state(0, 0, at + 1, 0), NO_SUCH);
            due(x.state(0, 0, 40, 0), NO_SUCH);
        }
        for (int many : new int[] {0, 1, 39, 40}) {
            ReadAloud x = year(DROPS, many("read 1 0;", many));
            due(x.stop(0, 0), many);
            due(x.state(0, 0, many, 20), many);
            due(x.state(0, 0, many, 11), many == 0 ? n(LONGEST) : many == 1 ? n("12301") : 0);
            due(x.state(0, 0, many + 1, 0), NO_SUCH);
            due(x.state(0, 0, -1, 0), NO_SUCH);
            x = year(DROPS, many("day;", many));
            due(x.state(0, 0, many, 0), many);
        }
        // Two DEEDS that can't be: the first. The other YEAR and the other BOOK are not this one.
        due(year(DROPS, "day;restore 0;hush 1;hush 1;").stop(0, 0), 1);
        ReadAloud x = year(DROPS, "read 0 0;day;");
        due(tell(x, 0, "text 1;"), 1);
        due(tell(x, 1, "day;day;day;"), 1);
        due(x.stop(0, 0), 2);
        due(x.stop(1, 0), 0);
        due(x.stop(0, 1), 3);
        due(x.stop(1, 1), 3);
        due(x.state(1, 0, 0, 10), n("1"));
        due(x.state(1, 0, 1, 10), NO_SUCH);
    }

    private static void suits() {
        says("SUITS: how many COPIES have another TEXT than the SEALED one.");
        ReadAloud x = year(DROPS, "read 1 0;read 2 0;read 3 0;seal 3;read 3 0;copy 3 0;copy 3 1;copy 3 2;");
        int[] suits = {0, 1, 2, 3, 1, 3, 2, 1, 0};
        for (int n = 0; n <= 8; n++) {
            due(x.state(0, 0, n, 2), suits[n]);
        }
        says("AGAINST: the first COPY whose TEXT has most DRIFT from the BOOK's; that DRIFT.");
        x = year(DROPS, "read 3 0;read 2 0;read 1 0;read 0 0;read 3 0;copy 3 1;copy 3 0;" + many("read 3 0;", 4) + "read 2 0;");
        int[] against = {0, 3, 2, 1, 0, 3, 1, 0, 3, 3, 3, 3, 3};
        int[] drift = {0, 1, 1, 1, 1, 2, 2, 2, 3, 4, 5, 6, 6};
        for (int n = 0; n <= 12; n++) {
            due(x.state(0, 0, n, 3), against[n]);
            due(x.state(0, 0, n, 4), drift[n]);
        }
        // It is the BOOK's TEXT, not the SEALED one's, from which AGAINST counts; and TEXTS, not COPIES, that SUITS are by.
        x = year("text 0;reader;double 1;", "read 0 0;copy 0 1;copy 0 2;copy 0 3;");
        due(x.state(0, 0, 4, 2), 0);
        due(x.state(0, 0, 4, 3), 0);
        due(x.state(0, 0, 4, 4), 1);
    }

    // ---- Terms 3

    private static void makings() {
        says("MAKING of a TEXT of a TEXT: the fewest readings; the first row of READERS by numbers.");
        ReadAloud x = with(DROPS, "text 1;");
        for (int length = 0; length <= 6; length++) {
            int t = n(LONGEST.substring(6 - length));
            due(x.making(0, n(LONGEST), t, NONE), 6 - length);
            for (int k = 0; k < 6; k++) {
                due(x.making(0, n(LONGEST), t, k), k < 6 - length ? 0 : NONE);
            }
            due(x.making(0, t, n(LONGEST), NONE), length == 6 ? 0 : NONE);
            due(x.making(0, t, n(LONGEST), 0), NONE);
            // By no READERS a TEXT comes to itself alone.
            due(x.making(1, t, t, NONE), 0);
            due(x.making(1, t, t, 0), NONE);
            due(x.making(1, t, n("3"), NONE), NONE);
        }
        // By 0 it would take four readings, by 1 and 2 two: of these rows the first.
        x = with("reader;drop 1;reader;drop 2;drop 1;reader;drop 1;drop 1;");
        due(x.making(0, n("0123"), 0, NONE), 2);
        due(x.making(0, n("0123"), 0, 0), 1);
        due(x.making(0, n("0123"), 0, 1), 1);
        due(x.making(0, n("012"), 0, NONE), 2);
        due(x.making(0, n("012"), 0, 0), 0);
        due(x.making(0, n("012"), 0, 1), 1);
        x = with("reader;drop 1;reader;drop 2;drop 2;reader;drop 2;drop 2;");
        due(x.making(0, n("012"), 0, NONE), 2);
        due(x.making(0, n("012"), 0, 0), 1);
        due(x.making(0, n("012"), 0, 1), 0);
    }

    private static void rings() {
        says("RING of a TEXT: the fewest readings, 1 or more, behind which it is as it was.");
        due(with("").ring(0, 0), NONE);
        due(with("reader;").ring(0, 0), 1);
        due(with("reader;").ring(0, 5460), 1);
        ReadAloud x = with(DROPS, "reader;swap 1;swap 2;swap 3;swap 4;");
        due(x.ring(0, 0), 1);
        due(x.ring(0, 1), NONE);
        due(x.ring(0, 5460), NONE);
        due(x.ring(1, n("01230")), 5);
        due(x.ring(1, n("012301")), 5);
        due(x.ring(1, n("0123")), 4);
        due(x.ring(1, n("012")), 3);
        due(x.ring(1, n("01")), 2);
        due(x.ring(1, n("0")), 1);
        due(x.ring(1, n("0101")), 2);
        due(with(SWAPS).ring(0, n("0123")), 1);
        due(with(SWAPS).ring(0, n("012301")), 2);
        due(with("reader;swap 1;swap 2;swap 3;swap 4;reader;turn;").ring(0, n("01230")), 2);
    }

    private static void reaches() {
        says("REACH of a TEXT: how many TEXTS it can come to (itself, too); the most readings that one of these needs at least.");
        ReadAloud x = with(DROPS, "reader;");
        for (int length = 0; length <= 6; length++) {
            int t = n(LONGEST.substring(0, length));
            due(x.reach(0, t, false), length + 1);
            due(x.reach(0, t, true), length);
            due(x.reach(1, t, false), 1);
            due(x.reach(1, t, true), 0);
        }
        x = with(ANYHOW);
        due(x.reach(0, n("0123"), false), TEXTS);
        due(x.reach(0, n("333210"), false), TEXTS);
        due(x.reach(0, n("231"), false), OF_WORDS[3] + 3 * OF_WORDS[2] + 3 * OF_WORDS[1] + 1);
        x = with(SWAPS, "");
        due(x.reach(0, n("0123"), false), 24);
        due(x.reach(0, n("0123"), true), 6);
        due(x.reach(0, n(LONGEST), false), 180);
        due(x.reach(0, 5460, false), 1);
        due(x.reach(1, 5460, false), 1);
        due(x.reach(1, 5460, true), 0);
    }

    private static void sounds() {
        says("SOUND by some READERS (bits): how many TEXTS are such that no one of these changes them.");
        ReadAloud x = with(SWAPS, "");
        due(x.sound(0, 0), TEXTS);
        due(x.sound(1, 0), TEXTS);
        due(x.sound(1, 1), NONE);
        // By swap k: TEXTS of up to k WORDS, and of the longer ones every fourth.
        int[] upTo = {1, 5, 21, 85, 341, 1365};
        for (int k = 1; k <= 5; k++) {
            due(x.sound(0, 1 << k - 1), upTo[k] + (TEXTS - upTo[k]) / 4);
        }
        // By all: those of one WORD throughout, and the empty one.
        due(x.sound(0, 31), 1 + 4 * 6);
        due(x.sound(0, 32), NONE);
        due(x.sound(0, 63), NONE);
        due(x.sound(0, -1), NONE);
        due(with("reader;drop 1;reader;").sound(0, 2), TEXTS);
        due(with("reader;drop 1;reader;").sound(0, 3), 1);
        says("LIKE of two READERS");
        for (int a = 0; a < 5; a++) {
            due(x.like(0, a, a), TEXTS);
        }
        due(x.like(0, 0, 2), TEXTS);
        due(x.like(0, 4, 0), TEXTS);
        // Of three WORDS and more only those that begin with three of a kind, every sixteenth.
        due(x.like(0, 0, 1), 21 + (TEXTS - 21) / 16);
        due(x.like(0, 1, 0), 21 + (TEXTS - 21) / 16);
        due(with("reader;drop 1;reader;").like(0, 0, 1), TEXTS);
        due(with("kin 0 1;kin 1 0;reader;shift 0;reader;shift 1;").like(0, 0, 1), 1 + 2 + 4 + 8 + 16 + 32 + 64);
    }

    private static void orbit(ReadAloud x, int reader, int... want) {
        for (int what = 0; what < 6; what++) {
            due(x.orbits(0, reader, what), want[what]);
        }
    }

    private static void orbits() {
        says("ORBITS of a READER, who reads again and again");
        ReadAloud x = with("kin 0 1;kin 1 2;kin 2 3;kin 3 3;reader;reader;drop 1;reader;double 1;reader;shift 2;shift 1;shift 0;reader;turn;");
        orbit(x, 0, TEXTS, 1, TEXTS, 0, 0, TEXTS);
        orbit(x, 1, 1, 1, 1, 6, 4096, 1);
        orbit(x, 2, 4097, 1, 4097, 5, 4 + 12 + 48 + 192 + 768, 4097);
        // Each WORD becomes its KIN by one reading: "0" is settled by three.
        orbit(x, 3, 7, 1, 7, 3, TEXTS - (1 + 3 + 9 + 27 + 81 + 243 + 729), 7);
        orbit(x, 4, 2815, 2, TEXTS, 0, 0, 169);
        x = with("reader;drop 1;drop 1;drop 1;drop 1;reader;swap 1;swap 2;swap 3;swap 4;");
        orbit(x, 0, 1, 1, 1, 2, TEXTS - 21, 1);
        due(x.orbits(0, 1, 1), 5);
        due(x.orbits(0, 1, 2), TEXTS);
        due(x.orbits(0, 1, 5), 1 + 4 + 4 + 4 + 4 + 4 + 16);
    }

    private static void rotas() {
        says("ROTA of n, 0 .. 9, readings of the BOOK's TEXT");
        ReadAloud x = with(DROPS, "");
        for (int n = 0; n <= 9; n++) {
            due(x.rota(0, n, 0), Math.min(n, 6));
            due(x.rota(0, n, 1), Math.min(n, 6));
            due(x.rota(0, n, 9 + n), n == 0 ? NONE : 0);
            due(x.rota(0, n, 10 + n), NONE);
            due(x.mean(0, n, false), Math.min(n, 6));
            due(x.mean(0, n, true), 1);
            says("NONE: no READERS (but for n 0)");
            due(x.rota(1, n, 0), n == 0 ? 0 : NONE);
            due(x.rota(1, n, 1), n == 0 ? 0 : NONE);
            due(x.rota(1, n, 10), NONE);
            due(x.mean(1, n, false), n == 0 ? 0 : NONE);
            due(x.mean(1, n, true), n == 0 ? 1 : NONE);
        }
        says("the first row of READERS by numbers. WORST: the most such DRIFT.");
        x = with(FULL + "reader;drop 1;reader;turn;turn;reader;reader;drop 1;", "reader;drop 1;reader;");
        for (int k = 0; k < 9; k++) {
            due(x.rota(0, 9, 10 + k), 1);
            due(x.rota(1, 9, 10 + k), 0);
        }
        due(x.rota(0, 9, 0), 0);
        due(x.rota(0, 9, 1), 6);
        due(x.rota(1, 9, 1), 0);
        // A drop is made good by a double, but for a second drop, behind which there is nothing to double.
        x = with("text 0 0;reader;drop 1;reader;double 1;");
        for (int k = 0; k < 4; k++) {
            due(x.rota(0, 4, 10 + k), k % 2);
            due(x.rota(0, 3, 10 + k), k < 3 ? k % 2 : NONE);
        }
        due(x.rota(0, 4, 0), 0);
        due(x.rota(0, 4, 1), 4);
        due(x.rota(0, 3, 0), 1);
        due(x.rota(0, 3, 1), 3);
    }

    private static void means() {
        says("the mean of that DRIFT, a fraction in least terms.");
        ReadAloud x = with("text 1;reader;reader;drop 1;", "text 1;reader;reader;");
        for (int n = 0; n <= 9; n++) {
            // It is there still by one row of all.
            due(x.mean(0, n, false), (1 << n) - 1);
            due(x.mean(0, n, true), 1 << n);
            due(x.mean(1, n, false), 0);
            due(x.mean(1, n, true), 1);
        }
        x = with(FULL + many("reader;drop 1;drop 1;drop 1;", 2) + many("reader;drop 1;", 2), "text 0 0;reader;drop 1;drop 1;reader;reader;reader;");
        due(x.mean(0, 1, false), 2);
        due(x.mean(0, 1, true), 1);
        // Three readings let 3, 5, 7, 9 WORDS fall out, in 1, 3, 3, 1 of 8 rows, but there are only six.
        due(x.mean(0, 3, false), 21);
        due(x.mean(0, 3, true), 4);
        due(x.mean(0, 9, false), 6);
        due(x.mean(0, 9, true), 1);
        due(x.mean(1, 1, false), 1);
        due(x.mean(1, 1, true), 2);
    }

    private static void elders() {
        says("ELDERS of a TEXT, n, 0 .. 9: of how many TEXTS it can come by just n readings; the least NUMBER of these.");
        ReadAloud x = with(DROPS, "");
        int[] upTo = {1, 5, 21, 85, 341, 1365, 5461, 5461, 5461, 5461};
        for (int n = 0; n <= 9; n++) {
            due(x.elders(0, 0, n, false), upTo[n]);
            due(x.elders(0, 0, n, true), 0);
            due(x.elders(0, n("1"), n, false), n < 6 ? 1 << 2 * n : 0);
            due(x.elders(0, n("1"), n, true), n < 6 ? n("0".repeat(n) + "1") : NONE);
            due(x.elders(0, 5460, n, false), n == 0 ? 1 : 0);
            due(x.elders(0, 5460, n, true), n == 0 ? 5460 : NONE);
            due(x.elders(1, 5460, n, false), n == 0 ? 1 : 0);
            due(x.elders(1, 5460, n, true), n == 0 ? 5460 : NONE);
        }
        // By just n: of "01" by one comes "10", by two not.
        x = with("reader;turn;");
        due(x.elders(0, n("10"), 1, true), n("01"));
        due(x.elders(0, n("10"), 2, true), n("10"));
        due(x.elders(0, n("10"), 9, true), n("01"));
    }

    private static void plays() {
        says("two read the BOOK's TEXT by turns, the first one first");
        ReadAloud x = with("text 0 0 0;reader;drop 1;reader;double 1;", "text 3 3 3 3 3 3;reader;reader;turn;reader;drop 1;");
        for (int n = 0; n <= 9; n++) {
            due(x.play(0, n, 0, 2, 1, false), 3 + n % 2);
            due(x.play(0, n, 0, 3, 3, false), 3 + n % 2);
            due(x.play(0, n, 0, 1, 2, false), 3 - n % 2);
            due(x.play(0, n, 0, 1, 1, false), Math.max(0, 3 - n));
            due(x.play(0, n, 0, 2, 2, false), Math.min(6, 3 + n));
            due(x.play(0, n, 1, 3, 3, false), 0);
            due(x.play(0, n, 0, 3, 3, true), n == 0 ? NONE : 1);
            due(x.play(0, n, 0, 1, 2, true), n == 0 ? NONE : 0);
            says("of several the least");
            due(x.play(0, n, 1, 3, 3, true), n == 0 ? NONE : 0);
            due(x.play(0, n, 1, 2, 3, true), n == 0 ? NONE : 1);
            due(x.play(1, n, 3, 6, 3, true), n == 0 ? NONE : 1);
            due(x.play(1, n, 3, 7, 7, false), 6 - n / 2);
            says("NONE: either has none (n 1: the first alone)");
            due(x.play(0, n, 0, 0, 3, false), NONE);
            due(x.play(0, n, 0, 3, 0, false), n == 1 ? 4 : NONE);
            due(x.play(0, n, 0, 3, 0, true), n == 1 ? 1 : NONE);
            due(x.play(0, n, 0, 0, 0, false), NONE);
            due(x.play(0, n, 0, 0, 3, true), NONE);
        }
        says("how many there will be");
        x = with("text 0 1 2 3 3 3;reader;", "");
        for (int w = 0; w < 4; w++) {
            due(x.play(0, 0, w, 1, 1, false), w == 3 ? 3 : 1);
            due(x.play(0, 9, w, 1, 1, false), w == 3 ? 3 : 1);
            due(x.play(1, 1, w, 0, 0, false), NONE);
            due(x.play(1, 1, w, 1, 1, false), NONE);
        }
    }

    // ---- Terms 4

    private static ReadAloud sight(String book, String facts) {
        ReadAloud x = with(book);
        due(tell(x, 2, facts), 0);
        return x;
    }

    private static void fits() {
        says("by which all FACTS up to n are so: FITS: how many");
        ReadAloud x = sight(SWAPS, "");
        ReadAloud y = sight("text 1;", "");
        ReadAloud z = sight(DROPS, "seen 0 1;");
        int all = 1;
        for (int n = 0; n <= 9; n++) {
            due(x.fits(0, 0, n, NONE), all);
            due(y.fits(0, 0, n, NONE), n == 0 ? 1 : 0);
            due(y.fits(0, 0, n, n("1")), n == 0 ? 1 : 0);
            due(y.sure(0, 0, n, NONE), n == 0 ? 0 : NONE);
            due(y.sure(0, 0, n, 0), NONE);
            due(z.fits(0, 0, n, NONE), 0);
            due(z.sure(0, 0, n, NONE), NONE);
            due(z.sure(0, 0, n, 0), NONE);
            all *= 5;
        }
        for (int at = 0; at <= 9; at++) {
            // Behind at readings a TEXT that is so, or is not: it counts from n = at on.
            String so = LONGEST.substring(Math.min(at, 6)).replaceAll("(.)", " $1");
            x = sight(DROPS, "seen " + at + so + ";");
            y = sight(DROPS, "seen " + at + so + ";seen " + at + " 3;seen " + at + so + ";");
            z = sight(DROPS, "seen " + at + so + ";seen " + at + so + ";");
            for (int n = 0; n <= 9; n++) {
                due(x.fits(0, 0, n, NONE), 1);
                due(y.fits(0, 0, n, NONE), n < at ? 1 : 0);
                due(z.fits(0, 0, n, NONE), 1);
                says("ENDS at a TEXT: how many of these");
                due(x.fits(0, 0, n, n(LONGEST.substring(Math.min(n, 6)))), 1);
                due(y.fits(0, 0, n, n(LONGEST.substring(Math.min(n, 6)))), n < at ? 1 : 0);
                due(x.fits(0, 0, n, 5460), 0);
                says("SURE of a reading k, 0 .. n less 1");
                due(x.sure(0, 0, n, n - 1), 0);
                due(x.sure(0, 0, n, n), NONE);
                due(y.sure(0, 0, n, NONE), n < at ? 0 : NONE);
                due(y.sure(0, 0, n, 0), n > 0 && n < at ? 0 : NONE);
            }
        }
    }

    /** One SIGHT behind the other, of one BOOK: the answers are those of each one. */
    private static void twoSights() {
        says("By a SIGHT");
        ReadAloud x = sight(DROPS, "");
        due(tell(x, 2, "seen 0 1;"), 1);
        for (int n = 9; n >= 0; n--) {
            due(x.fits(0, 0, n, NONE), 1);
            due(x.fits(0, 1, n, NONE), 0);
            due(x.fits(0, 1, n, n(LONGEST)), 0);
            due(x.sure(0, 0, n, NONE), 0);
            due(x.sure(0, 1, n, NONE), NONE);
            due(x.rota(0, n, 0), Math.min(n, 6));
        }
    }

    private static void sures() {
        says("SURE of a reading k, 0 .. n less 1: the READER of it in all.");
        // Of "01" comes "" by two drops; by three readings these and any one behind them, or a turn ahead or between.
        String book = "text 0 1;reader;turn;reader;drop 1;reader;double 1;";
        ReadAloud x = sight(book, "seen 2;");
        due(x.fits(0, 0, 2, NONE), 1);
        due(x.sure(0, 0, 2, 0), 1);
        due(x.sure(0, 0, 2, 1), 1);
        due(x.sure(0, 0, 2, 2), NONE);
        due(x.sure(0, 0, 2, NONE), 0);
        // The third reading is of the empty TEXT by any: the first two are sure, the third is not.
        due(x.fits(0, 0, 3, NONE), 3);
        due(x.sure(0, 0, 3, 0), 1);
        due(x.sure(0, 0, 3, 1), 1);
        due(x.sure(0, 0, 3, 2), NONE);
        due(x.sure(0, 0, 3, NONE), 0);
        x = sight(book, "seen 3;");
        due(x.fits(0, 0, 3, NONE), 3 + 2);
        due(x.sure(0, 0, 3, 0), NONE);
        due(x.sure(0, 0, 3, 1), NONE);
        due(x.sure(0, 0, 3, 2), NONE);
        // Below the FACT's readings nothing is known.
        due(x.fits(0, 0, 1, NONE), 3);
        due(x.sure(0, 0, 1, 0), NONE);
        says("LOOK: the number of readings, 0 .. n, behind which the greatest number of those rows that have one TEXT is least, of several the least.");
        due(x.sure(0, 0, 0, NONE), 0);
        due(x.sure(0, 0, 1, NONE), 1);
        // The five rows: behind none all have "01", behind one four have "1", behind two three have "", behind three all.
        due(x.sure(0, 0, 3, NONE), 2);
        due(sight("text 0;reader;reader;reader;", "").sure(0, 0, 9, NONE), 0);
        due(sight("text 0 1;reader;turn;reader;", "").sure(0, 0, 9, NONE), 1);
        due(sight("text 0 1;reader;reader;drop 1;", "seen 9 1;").sure(0, 0, 9, NONE), 4);
        due(sight("text 0 0;reader;drop 2;reader;", "seen 1 0 0;").sure(0, 0, 2, NONE), 2);
    }

    private static void draws() {
        says("a number below n is drawn: x becomes x * 1103515245 + 12345 (of 32 bits), it is x shifted right by 16 without sign, remainder by n");
        Model m = new Model();
        for (int there = 0; there <= 5; there++) {
            String book = FULL + "reader;turn;reader;drop 1;reader;swap 1;reader;double 2;reader;drop 3;".substring(0, new int[] {0, 12, 26, 40, 56, 70}[there]);
            m.told = new Model.Told();
            for (int i = 0; i < book.length(); i++) {
                m.told.tape += book.charAt(i);
            }
            due(m.text(0, -1), 0);
            for (int seed : new int[] {MIN, -1, 0, 1, 12345, MAX}) {
                ReadAloud x = with(book);
                due(x.book(0, 1), there);
                for (int n : new int[] {0, 1, 2, 30, 59, 60}) {
                    for (int what : new int[] {0, 1, 2, 3, 4, 5, 10, 11, 12, 13, 20, 24}) {
                        due(x.drawn(0, seed, n, what), m.drawn(0, seed, n, what));
                    }
                }
                due(x.drawn(0, seed, 61, 0), NO_SUCH);
                due(x.drawn(0, seed, -1, 0), NO_SUCH);
            }
        }
    }

    // ---- Terms 5

    private static void kinships() {
        says("going from KIN to KIN, how many until it is in a ring (0, if it is in one itself); how many are in that ring.");
        for (int all = 0; all < 256; all++) {
            int[] kin = {all & 3, all >> 2 & 3, all >> 4 & 3, all >> 6};
            ReadAloud x = with("kin 0 " + kin[0] + ";kin 1 " + kin[1] + ";kin 2 " + kin[2] + ";kin 3 " + kin[3] + ";");
            for (int w = 0; w < 4; w++) {
                StringBuilder met = new StringBuilder();
                int at = w;
                while (met.indexOf("" + at) < 0) {
                    met.append(at);
                    at = kin[at];
                }
                int until = met.indexOf("" + at);
                due(x.kinship(0, w, false), until);
                due(x.kinship(0, w, true), met.length() - until);
            }
        }
    }

    private static void shareds() {
        says("SHARED of two TEXTS: the most WORDS, in their order, that are left of both, if others fall out");
        ReadAloud x = new ReadAloud();
        for (int length = 0; length <= 6; length++) {
            String t = LONGEST.substring(0, length);
            due(x.shared(n(t), n(LONGEST), false), length);
            due(x.shared(n(LONGEST), n(t), true), n(t));
            due(x.shared(n(t), 0, false), 0);
            due(x.shared(0, n(t), true), 0);
            due(x.shared(n("2".repeat(length)), 5460, false), 0);
            due(x.shared(n("2".repeat(length)), 5460, true), 0);
            due(x.shared(n("3".repeat(length)), 5460, false), length);
            due(x.shared(5460, n("3".repeat(length)), true), n("3".repeat(length)));
        }
        says("of the TEXTS of so many that are left of both, the least NUMBER.");
        due(x.shared(n("3210"), n("0123"), false), 1);
        due(x.shared(n("3210"), n("0123"), true), n("0"));
        due(x.shared(n("2301"), n("0123"), false), 2);
        due(x.shared(n("2301"), n("0123"), true), n("01"));
        due(x.shared(n("0123"), n("2301"), true), n("01"));
        due(x.shared(n("301230"), n("012301"), false), 5);
        due(x.shared(n("301230"), n("012301"), true), n("01230"));
        due(x.shared(n("321321"), n("123123"), false), 3);
        due(x.shared(n("321321"), n("123123"), true), n("121"));
    }

    private static void joineds() {
        says("JOINED of two TEXTS: the fewest readings, of both together, behind which both are one TEXT; the least NUMBER of such a TEXT.");
        ReadAloud x = with(DROPS, "");
        due(x.joined(0, n("01"), n("01"), false), 0);
        due(x.joined(0, n("01"), n("01"), true), n("01"));
        due(x.joined(0, 5460, n("222222"), false), 12);
        due(x.joined(0, 5460, n("222222"), true), 0);
        due(x.joined(0, 5460, 0, false), 6);
        due(x.joined(0, 0, 5460, true), 0);
        due(x.joined(0, n("0123"), n("23"), false), 2);
        due(x.joined(0, n("23"), n("0123"), true), n("23"));
        for (int t : new int[] {0, 1, 5460}) {
            due(x.joined(1, t, t, false), 0);
            due(x.joined(1, t, t, true), t);
            due(x.joined(1, t, n("01"), false), NONE);
            due(x.joined(1, n("01"), t, true), NONE);
        }
        // Both ways take one reading: the least of the two TEXTS, however they are asked.
        x = with("reader;turn;");
        due(x.joined(0, n("01"), n("10"), true), n("01"));
        due(x.joined(0, n("10"), n("01"), true), n("01"));
        due(x.joined(0, n("10"), n("01"), false), 1);
        due(x.joined(0, n("10"), n("00"), false), NONE);
    }

    private static void nearests() {
        says("NEAREST of a TEXT to another one: the least DRIFT from that other one of all TEXTS the first one can come to; the least NUMBER of these.");
        ReadAloud x = with(DROPS, "");
        due(x.nearest(0, n(LONGEST), n(LONGEST), false), 0);
        due(x.nearest(0, n(LONGEST), n(LONGEST), true), n(LONGEST));
        due(x.nearest(0, n(LONGEST), 0, false), 0);
        due(x.nearest(0, n(LONGEST), 0, true), 0);
        for (int length = 0; length <= 6; length++) {
            // It comes to this one, and to nearer and farther ones behind it.
            due(x.nearest(0, n(LONGEST), n(LONGEST.substring(6 - length)), false), 0);
            due(x.nearest(0, n(LONGEST), n(LONGEST.substring(6 - length)), true), n(LONGEST.substring(6 - length)));
        }
        due(x.nearest(0, 0, 5460, false), 6);
        due(x.nearest(0, 0, 5460, true), 0);
        // "" and "1" are one WORD off "2", "01" two.
        due(x.nearest(0, n("01"), n("2"), false), 1);
        due(x.nearest(0, n("01"), n("2"), true), 0);
        due(x.nearest(1, n("01"), n("2"), false), 2);
        due(x.nearest(1, n("01"), n("2"), true), n("01"));
        due(x.nearest(1, 5460, 5460, false), 0);
        x = with("reader;turn;");
        due(x.nearest(0, n("10"), n("0110"), false), 2);
        due(x.nearest(0, n("10"), n("0110"), true), n("01"));
    }

    private static void settleds() {
        says("SETTLES: the fewest readings by which a TEXT comes to one that no READER changes; the least NUMBER of these, by so few.");
        ReadAloud x = with(DROPS, "");
        for (int length = 0; length <= 6; length++) {
            int t = n(LONGEST.substring(0, length));
            due(x.settles(0, t, false), length);
            due(x.settles(0, t, true), 0);
            due(x.settles(1, t, false), 0);
            due(x.settles(1, t, true), t);
        }
        x = with("reader;swap 1;", "reader;drop 1;reader;drop 2;drop 2;drop 2;drop 2;");
        due(x.settles(0, n("01"), false), NONE);
        due(x.settles(0, n("01"), true), NONE);
        due(x.settles(0, n("11"), false), 0);
        due(x.settles(0, n("11"), true), n("11"));
        due(x.settles(1, n("31"), false), 2);
        due(x.settles(1, n("31"), true), 0);
        // By one reading "1", by two "0": fewer readings go ahead of a lesser NUMBER. By one "1" or "0": the lesser NUMBER.
        x = with("reader;drop 2;drop 2;reader;swap 1;", "reader;drop 2;drop 2;reader;swap 1;drop 2;drop 2;");
        due(x.settles(0, n("10"), false), 1);
        due(x.settles(0, n("10"), true), n("1"));
        due(x.settles(1, n("10"), false), 1);
        due(x.settles(1, n("10"), true), n("0"));
        due(x.settles(1, n("01"), true), n("0"));
    }

    private static void unmades() {
        says("UNMADE: how many TEXTS come of no TEXT by a reading; the least NUMBER of these.");
        ReadAloud x = with("", "reader;");
        due(x.unmade(0, false), TEXTS);
        due(x.unmade(0, true), 0);
        due(x.unmade(1, false), 0);
        due(x.unmade(1, true), NONE);
        x = with(DROPS, "reader;double 1;reader;drop 1;");
        due(x.unmade(0, false), 4096);
        due(x.unmade(0, true), 1365);
        due(x.unmade(1, false), 0);
        due(x.unmade(1, true), NONE);
        x = with("reader;double 1;", "kin 0 1;reader;shift 0;");
        due(x.unmade(0, false), 4 + 12 + 48 + 192 + 768);
        due(x.unmade(0, true), 1);
        due(x.unmade(1, false), TEXTS - (1 + 3 + 9 + 27 + 81 + 243 + 729));
        due(x.unmade(1, true), 1);
        // A READER who changes nothing makes each TEXT of itself.
        due(with("kin 3 0;reader;shift 3;reader;").unmade(0, false), 0);
    }

    private static void silences() {
        says("SILENCED of a TEXT, another one: the fewest READERS (bits; of several the least) without whose readings the other one can't be made of it.");
        for (int there = 0; there <= 5; there++) {
            ReadAloud x = with(many("reader;drop 1;", there));
            // All are needed: each one makes it.
            due(x.silenced(0, n("3"), 0), (1 << there) - 1);
            due(x.silenced(0, n("3"), n("2")), 0);
            due(x.silenced(0, 5460, n("3")), (1 << there) - 1);
            due(x.silenced(0, 0, 0), NONE);
            due(x.silenced(0, 5460, 5460), NONE);
        }
        // Of two without each of whom it can't be made, the least; one alone goes ahead of two lesser ones.
        ReadAloud x = with("reader;turn;reader;drop 1;reader;reader;drop 1;", "reader;drop 1;reader;drop 1;reader;turn;");
        due(x.silenced(0, n("01"), n("0")), 1);
        due(x.silenced(0, n("01"), n("1")), 2 + 8);
        due(x.silenced(1, n("01"), n("0")), 4);
        due(x.silenced(1, n("01"), n("1")), 3);
    }

    private static void circles() {
        says("CIRCLES: TEXTS each of which can be made of each: how many circles there are (a TEXT alone is one); the largest; how many are in that of a TEXT.");
        for (String book : new String[] {"", "reader;", DROPS, "reader;double 1;"}) {
            ReadAloud x = with(book);
            due(x.circles(0, NONE), TEXTS);
            due(x.circles(0, -2), 1);
            due(x.circles(0, 0), 1);
            due(x.circles(0, 5460), 1);
        }
        ReadAloud x = with(SWAPS, "reader;drop 1;reader;double 1;");
        due(x.circles(0, NONE), 1 + 4 + 10 + 20 + 35 + 56 + 84);
        due(x.circles(0, -2), 180);
        due(x.circles(0, n(LONGEST)), 180);
        due(x.circles(0, n("0123")), 24);
        due(x.circles(0, n("001122")), 90);
        due(x.circles(0, 5460), 1);
        due(x.circles(0, 0), 1);
        // By drop and double, those of one WORD throughout are a circle; no other TEXT is made again of what it came to.
        due(x.circles(1, n("3")), 6);
        due(x.circles(1, 5460), 6);
        due(x.circles(1, 0), 1);
        due(x.circles(1, -2), 6);
        // The first five WORDS go round: circles of 5, of 1 where they are of a kind, of n where there are only n.
        x = with("reader;swap 1;swap 2;swap 3;swap 4;");
        due(x.circles(0, NONE), 1 + 4 + 10 + 24 + 70 + 208 + 4 * 208);
        due(x.circles(0, -2), 5);
        due(x.circles(0, n("012301")), 5);
        due(x.circles(0, n("01230")), 5);
        due(x.circles(0, n("0123")), 4);
        due(x.circles(0, n("012")), 3);
        due(x.circles(0, n("0101")), 2);
        due(x.circles(0, n("000001")), 1);
        x = with(ANYHOW);
        due(x.circles(0, NONE), 16);
        due(x.circles(0, -2), 1824);
        for (int words = 0; words <= 4; words++) {
            due(x.circles(0, n("3210".substring(0, words))), OF_WORDS[words]);
            due(x.circles(0, NONE), 16);
            due(x.circles(0, -2), 1824);
        }
    }

    private static void told() {
        says("of his STEP k what it is, its number (0 of TURN).");
        ReadAloud x = with("reader;turn;swap 6;turn;shift 3;reader;turn;");
        int[] want = {4, 0, 3, 6, 4, 0, 0, 3, NONE, NONE, 4, 0, NONE, NONE};
        for (int i = 0; i < want.length; i++) {
            due(x.book(0, 30 + i), want[i]);
        }
        says("1, 2: its numbers (NONE without)");
        ReadAloud y = new ReadAloud();
        due(tell(y, 1, many("day;", 39) + "read 3 4;"), 0);
        due(y.deed(0, 39, 0), 0);
        due(y.deed(0, 39, 1), 3);
        due(y.deed(0, 39, 2), 4);
        due(y.deed(0, 38, 0), 5);
        due(y.deed(0, 38, 1), NONE);
        due(y.deed(0, 38, 2), NONE);
        due(y.deed(0, 40, 0), NO_SUCH);
        says("of FACT k, what 0: readings, 1: NUMBER.");
        due(tell(y, 2, many("seen 9 3 3 3 3 3 3;", 5) + "seen 00;"), 0);
        due(y.fact(0, 4, 0), 9);
        due(y.fact(0, 4, 1), 5460);
        due(y.fact(0, 5, 0), 0);
        due(y.fact(0, 5, 1), 0);
        due(y.fact(0, 6, 0), NO_SUCH);
    }

    public static void main(String[] args) {
        numbers();
        drifts();
        places();
        steps();
        told();
        beginning();
        readers();
        hushing();
        sealing();
        stops();
        suits();
        makings();
        rings();
        reaches();
        sounds();
        orbits();
        rotas();
        means();
        elders();
        plays();
        fits();
        twoSights();
        sures();
        draws();
        kinships();
        shareds();
        joineds();
        nearests();
        settleds();
        unmades();
        silences();
        circles();
        finish();
    }
}
