/**
 * The promises one by one, with answers worked out by hand: ordinary inputs, edges, wrong inputs.
 * A method p7 has the tests of promise 7.
 */
public final class PromiseTests extends Kit {
    private static final String SMALL = "text 0 1;kin 0 1;reader;drop 1;reader;turn;reader;double 1;";

    private static void p1() {
        ReadAloud x = new ReadAloud();
        due(ReadAloud.NONE, -1);
        for (int sort = 0; sort < 3; sort++) {
            due(x.count(sort), 0);
            due(x.again(sort), false);
        }
        due(x.fault(0), 0);
        due(x.fault(1), NONE);
        due(x.end(1), NONE);
        due(x.end(0), 0);
        due(x.book(0, 0), NONE);
        due(x.deed(0, NONE, 0), -2);
        due(x.fact(0, NONE, 0), -2);
    }

    private static void p2() {
        ReadAloud x = new ReadAloud();
        for (int i = 1; i <= 30; i++) {
            due(x.feed(1, 2, 3, 4, 5), 20 * i);
        }
        due(x.feed(1, 2, 3, 4, 5), NONE);
        due(x.end(600), 600);
        due(x.end(581), 581);
        due(x.feed(1, 2, 3, 4, 5), NONE);
        due(x.end(580), 580);
        due(x.feed(1, 2, 3, 4, 5), 600);
        // "text 3 2 1 0 ;reader;" less its last sign: the highest byte first, number by number.
        x = new ReadAloud();
        due(x.feed(0x74657874, 0x20332032, 0x20312030, 0x203b2020, 0x20202020), 20);
        due(x.text(0, NONE), 0);
        due(x.book(0, 0), n("3210"));
        // A byte above 127 is no letter, digit or blank.
        due(x.feed(0x20202080, MIN, MAX, -1, 0), 20);
        due(x.text(0, NONE), NONE);
        due(x.fault(1), 3);
    }

    private static void p3() {
        ReadAloud x = new ReadAloud();
        x.feed(0x74657874, 0x20332032, 0x20312030, 0x3b202020, 0x20202020);
        due(x.end(-1), NONE);
        due(x.end(MIN), NONE);
        due(x.end(21), NONE);
        due(x.end(MAX), NONE);
        due(x.end(20), 20);
        due(x.end(13), 13);
        due(x.end(14), NONE);
        due(x.text(0, NONE), 0);
        due(x.book(0, 0), n("3210"));
        due(x.end(0), 0);
        due(x.end(1), NONE);
        // Bytes behind the end are no part of a token that goes up to it.
        put(x, "texta");
        x.end(4);
        due(x.text(0, NONE), NONE);
        due(x.fault(0), 1);
        due(x.fault(1), 4);
        put(x, "seen 1 23;");
        x.end(8);
        due(x.text(2, NONE), NONE);
        due(x.fault(0), 1);
        due(x.fault(1), 8);
        put(x, "seen 1 2;seen");
        x.end(9);
        due(x.text(2, NONE), 0);
    }

    private static void p4() {
        ReadAloud x = new ReadAloud();
        due(tell(x, 0, "text 1;"), 0);
        due(x.end(1), NONE);
        due(x.text(0, NONE), 1);
        due(x.book(1, 0), 0);
        due(tell(x, 0, "text 2;"), -2);
        due(x.end(1), NONE);
        due(x.count(0), 2);
        put(x, "text 2;");
        due(x.text(0, 0), 0);
        due(x.book(0, 0), n("2"));
        put(x, "text 3;reader;");
        due(x.text(0, 1), 1);
        due(x.book(1, 1), 1);
        for (int at : new int[] {2, -2, MAX, MIN}) {
            put(x, "text 3;");
            due(x.text(0, at), -2);
            due(x.end(1), NONE);
        }
        for (int sort : new int[] {-1, 3, MAX, MIN}) {
            put(x, "bad");
            due(x.text(sort, NONE), -2);
            due(x.end(1), NONE);
            due(x.fault(0), 0);
            due(x.fault(1), NONE);
        }
        put(x, "text 4;");
        due(x.text(0, 0), NONE);
        due(x.end(1), NONE);
        due(x.fault(0), 2);
        due(x.book(0, 0), n("2"));
        put(x, "");
        due(x.text(1, 0), -2);
        due(x.fault(0), 0);
        due(tell(x, 1, "day;"), 0);
        due(tell(x, 1, "day;day;"), 1);
        due(tell(x, 1, "bad"), -2);
        due(tell(x, 2, "seen 1;"), 0);
        due(tell(x, 2, "seen 1 bad"), NONE);
        due(x.count(2), 1);
        due(tell(x, 2, ""), 1);
        due(tell(x, 2, ""), -2);
    }

    private static void faulty(int sort, String text, int fault, int place) {
        ReadAloud x = new ReadAloud();
        due(tell(x, sort, text), fault == 0 ? 0 : NONE);
        due(x.fault(0), fault);
        due(x.fault(1), place);
        due(x.count(sort), fault == 0 ? 1 : 0);
    }

    private static void p5() {
        faulty(0, "", 0, NONE);
        faulty(0, " \n text\n00 01 3;kin 3 0 ; reader;shift0;swap 6;turn;double 06;", 0, NONE);
        faulty(0, "text;", 0, NONE);
        // 1: bytes, tokens, rows of digits, the end
        faulty(0, "texts 0;", 1, 0);
        faulty(0, "text 0", 1, 6);
        faulty(0, "text 0 \n ", 1, 9);
        faulty(0, "text#;", 1, 4);
        faulty(0, "tex#;", 1, 0);
        faulty(0, "\ttext;", 1, 0);
        faulty(0, "text 012;", 1, 5);
        faulty(0, "text 0;;", 1, 7);
        faulty(0, "text; 1;", 1, 6);
        faulty(0, "kin 0;", 1, 5);
        faulty(0, "kin 0 1 2;", 1, 8);
        faulty(0, "kin 0 kin;", 1, 6);
        faulty(0, "reader 1;", 1, 7);
        faulty(0, "reader;turn 1;", 1, 12);
        faulty(0, "reader;drop;", 1, 11);
        faulty(0, "reader;drop 1 2;", 1, 14);
        faulty(0, "reader", 1, 6);
        faulty(0, "Reader;", 1, 0);
        faulty(0, "day;", 1, 0);
        faulty(1, "reader;", 1, 0);
        faulty(1, "read 0;", 1, 6);
        faulty(1, "copy 0 1 2;", 1, 9);
        faulty(1, "seal;", 1, 4);
        faulty(1, "day 1;", 1, 4);
        faulty(2, "seen;", 1, 4);
        faulty(2, "seen 1 2", 1, 8);
        faulty(2, "text;", 1, 0);
        // 1 goes ahead of all others
        faulty(0, "text 9;drop 1;text", 1, 18);
        // 2
        faulty(0, "text 0 4;", 2, 7);
        faulty(0, "kin 4 9;", 2, 4);
        faulty(0, "kin 0 4;", 2, 6);
        faulty(0, "reader;shift 4;", 2, 13);
        faulty(0, "reader;drop 0;", 2, 12);
        faulty(0, "reader;drop 7;", 2, 12);
        faulty(0, "reader;double 0;", 2, 14);
        faulty(0, "reader;double 7;", 2, 14);
        faulty(0, "reader;swap 00;", 2, 12);
        faulty(0, "reader;swap 7;", 2, 12);
        faulty(0, "reader;swap 6;drop 6;double 6;shift 3;", 0, NONE);
        faulty(1, "read 4 0;", 2, 5);
        faulty(1, "read 3 5;", 2, 7);
        faulty(1, "read 3 4;", 0, NONE);
        faulty(1, "copy 4 0;", 2, 5);
        faulty(1, "copy 0 4;", 2, 7);
        faulty(1, "copy 1 1;", 2, 7);
        faulty(1, "copy 1 01;", 2, 7);
        faulty(1, "copy 7 7;", 2, 5);
        faulty(1, "read 1 1;", 0, NONE);
        faulty(1, "seal 4;", 2, 5);
        faulty(1, "restore 4;", 2, 8);
        faulty(1, "hush 4;", 2, 5);
        faulty(2, "seen 10;", 2, 5);
        faulty(2, "seen 9 4;", 2, 7);
        faulty(2, "seen 9;seen 0 3 3 3 3 3 3;", 0, NONE);
        // 3
        faulty(0, "text 0 0 0 0 0 0;", 0, NONE);
        faulty(0, "text 0 0 0 0 0 0 0;", 3, 17);
        faulty(0, "text 0 0 0 0 0 0 4 0;", 2, 17);
        faulty(0, "text 0 0 0 0 0 0 0 4;", 3, 17);
        faulty(0, many("reader;", 5), 0, NONE);
        faulty(0, many("reader;", 6), 3, 35);
        faulty(0, "reader;" + many("turn;", 4), 0, NONE);
        faulty(0, "reader;" + many("turn;", 5), 3, 27);
        faulty(0, "reader;" + many("turn;", 4) + "reader;" + many("turn;", 4), 0, NONE);
        faulty(0, "reader;" + many("turn;", 4) + "drop 9;", 3, 27);
        faulty(0, "reader;" + many("turn;", 3) + "drop 9;turn;", 2, 27);
        faulty(1, many("day;", 40), 0, NONE);
        faulty(1, many("day;", 41), 3, 160);
        faulty(1, many("day;", 40) + "seal 9;", 3, 160);
        faulty(2, many("seen 1;", 6), 0, NONE);
        faulty(2, many("seen 1;", 7), 3, 42);
        faulty(2, "seen 1 0 0 0 0 0 0;", 0, NONE);
        faulty(2, "seen 1 0 0 0 0 0 0 0;", 3, 19);
        // 4
        faulty(0, "turn;reader;", 4, 0);
        faulty(0, "text 1; drop 9;", 4, 8);
        faulty(0, "text 9; drop 1;", 2, 5);
        ReadAloud x = new ReadAloud();
        tell(x, 0, "text 9;");
        due(x.fault(-1), NONE);
        due(x.fault(2), NONE);
        due(x.fault(MAX), NONE);
        tell(x, 0, "text 1;");
        due(x.fault(0), 0);
        due(x.fault(1), NONE);
    }

    private static void p6() {
        ReadAloud x = with("text 3;text 0 1 2;kin 0 1;kin 3 0;kin 0 2;reader;reader;shift 2;drop 6;double 1;swap 3;reader;turn;", "");
        due(x.book(0, 0), n("012"));
        due(x.book(0, 1), 3);
        int[] kin = {2, 1, 2, 0};
        for (int w = 0; w < 4; w++) {
            due(x.book(0, 10 + w), kin[w]);
            due(x.book(1, 10 + w), w);
        }
        due(x.book(0, 20), 0);
        due(x.book(0, 21), 4);
        due(x.book(0, 22), 1);
        due(x.book(0, 23), NONE);
        due(x.book(0, 30), NONE);
        int[] steps = {0, 2, 1, 6, 2, 1, 3, 3, NONE, NONE, 4, 0, NONE, NONE};
        for (int i = 0; i < steps.length; i++) {
            due(x.book(0, 40 + i), steps[i]);
        }
        due(x.book(1, 0), 0);
        due(x.book(1, 1), 0);
        for (int what : new int[] {-1, 2, 9, 14, 19, 20, 29, 30, 60, 80, MAX, MIN}) {
            due(x.book(1, what), NONE);
        }
        due(x.book(2, 0), NONE);
        due(x.book(-1, 0), NONE);
    }

    private static void p7() {
        ReadAloud x = new ReadAloud();
        due(x.word(0, NONE), 0);
        due(x.word(0, 0), NONE);
        due(x.word(4, NONE), 1);
        due(x.word(4, 0), 3);
        due(x.word(5, NONE), 2);
        due(x.word(20, NONE), 2);
        due(x.word(21, NONE), 3);
        due(x.word(n("0312"), NONE), 4);
        due(x.word(n("0312"), 0), 0);
        due(x.word(n("0312"), 1), 3);
        due(x.word(n("0312"), 2), 1);
        due(x.word(n("0312"), 3), 2);
        due(x.word(n("0312"), 4), NONE);
        due(x.word(n("0312"), -2), NONE);
        due(x.word(5460, NONE), 6);
        due(x.word(5460, 5), 3);
        due(x.word(1365, 0), 0);
        due(x.word(5461, NONE), NONE);
        due(x.word(-1, NONE), NONE);
        due(x.word(MAX, 0), NONE);
        due(x.word(5460, MIN), NONE);
    }

    private static void p8() {
        ReadAloud x = new ReadAloud();
        due(x.drift(0, 0), 0);
        due(x.drift(0, 5460), 6);
        due(x.drift(5460, 0), 6);
        due(x.drift(n("01"), n("10")), 2);
        due(x.drift(n("0123"), n("123")), 1);
        due(x.drift(n("012301"), n("123012")), 2);
        due(x.drift(n("000000"), n("111111")), 6);
        due(x.drift(n("0213"), n("0123")), 2);
        due(x.drift(-1, 0), NONE);
        due(x.drift(0, -1), NONE);
        due(x.drift(5461, 0), NONE);
        due(x.drift(0, 5461), NONE);
    }

    private static int after(String kin, String steps, String text) {
        return with(kin + "reader;reader;" + steps).read(0, n(text), 1);
    }

    private static void p9() {
        due(after("kin 0 2;kin 2 3;", "shift 0;", "012"), n("212"));
        due(after("kin 0 2;kin 2 3;", "shift 0;shift 2;", "012"), n("313"));
        due(after("kin 0 1;kin 1 0;", "shift 0;", "0101"), n("1111"));
        due(after("", "shift 0;", "0101"), n("0101"));
        due(after("", "drop 1;", "0123"), n("123"));
        due(after("", "drop 2;", "0123"), n("023"));
        due(after("", "drop 4;", "0123"), n("012"));
        due(after("", "drop 5;", "0123"), n("0123"));
        due(after("", "drop 1;", ""), 0);
        due(after("", "double 1;", "0123"), n("00123"));
        due(after("", "double 4;", "0123"), n("01233"));
        due(after("", "double 5;", "0123"), n("0123"));
        due(after("", "double 5;", "01230"), n("012300"));
        due(after("", "double 3;", "012301"), n("012301"));
        due(after("", "swap 1;", "0123"), n("1023"));
        due(after("", "swap 3;", "0123"), n("0132"));
        due(after("", "swap 4;", "0123"), n("0123"));
        due(after("", "swap 6;", "012301"), n("012301"));
        due(after("", "swap 5;", "012301"), n("012310"));
        due(after("", "turn;", "0123"), n("3210"));
        due(after("", "turn;", ""), 0);
        due(after("", "drop 1;turn;double 1;swap 2;", "0123"), n("3231"));
        due(after("", "", "0123"), n("0123"));
        // The KIN that are told last are those of all STEPS, be they told behind them.
        due(with("kin 0 1;reader;shift 0;kin 0 3;").read(0, n("02"), 0), n("32"));
        ReadAloud x = with(SMALL);
        due(x.read(0, 0, 0), 0);
        due(x.read(0, 0, 3), NONE);
        due(x.read(0, 0, -1), NONE);
        due(x.read(0, -1, 0), NONE);
        due(x.read(0, 5461, 0), NONE);
        due(x.read(1, 0, 0), NONE);
        due(x.read(-1, 0, 0), NONE);
    }

    private static void p10() {
        ReadAloud x = new ReadAloud();
        tell(x, 1, "read 3 4;copy 0 2;seal 1;restore 2;hush 3;day;");
        int[][] deeds = {{0, 3, 4}, {1, 0, 2}, {2, 1, NONE}, {3, 2, NONE}, {4, 3, NONE}, {5, NONE, NONE}};
        due(x.deed(0, NONE, 0), 6);
        for (int k = 0; k < 6; k++) {
            for (int what = 0; what < 3; what++) {
                due(x.deed(0, k, what), deeds[k][what]);
            }
            due(x.deed(0, k, 3), -2);
            due(x.deed(0, k, -1), -2);
        }
        due(x.deed(0, NONE, 1), -2);
        due(x.deed(0, 6, 0), -2);
        due(x.deed(0, -2, 0), -2);
        due(x.deed(1, NONE, 0), -2);
        due(x.deed(-1, NONE, 0), -2);
        tell(x, 1, "");
        due(x.deed(1, NONE, 0), 0);
        due(x.deed(1, 0, 0), -2);
    }

    private static int stopOf(String book, String year) {
        ReadAloud x = with(book);
        due(tell(x, 1, year), 0);
        return x.stop(0, 0);
    }

    private static void p11() {
        due(stopOf(SMALL, ""), 0);
        due(stopOf(SMALL, "day;read 0 2;day;"), 3);
        due(stopOf(SMALL, "day;read 0 3;day;"), 1);
        due(stopOf("", "read 0 0;"), 0);
        due(stopOf(SMALL, "restore 1;restore 0;"), 1);
        due(stopOf(SMALL, "seal 0;seal 1;restore 0;restore 1;"), 3);
        due(stopOf(SMALL, "hush 1;hush 2;hush 1;"), 2);
        due(stopOf(SMALL, "hush 1;read 1 0;hush 1;"), 3);
        due(stopOf(SMALL, "hush 1;copy 0 1;restore 1;hush 1;"), 3);
        due(stopOf(SMALL, "copy 1 0;seal 0;"), 2);
        due(stopOf(SMALL, many("day;", 40)), 40);
        ReadAloud x = with(SMALL);
        due(x.stop(0, 0), NONE);
        tell(x, 1, "");
        due(x.stop(0, 0), 0);
        due(x.stop(1, 0), NONE);
        due(x.stop(-1, 0), NONE);
        due(x.stop(0, 1), NONE);
        due(x.stop(0, -1), NONE);
    }

    private static void states(ReadAloud x, int n, int... want) {
        int[] whats = {0, 1, 2, 3, 4, 5, 10, 11, 12, 13, 20, 21, 22};
        for (int i = 0; i < whats.length; i++) {
            due(x.state(0, 0, n, whats[i]), want[i]);
        }
    }

    private static void p12() {
        ReadAloud x = with(SMALL);
        tell(x, 1, "read 0 0;copy 0 1;hush 2;read 2 1;read 2 1;seal 1;restore 0;day;restore 1;");
        int t = n("01");
        int s = n("1");
        int u = n("10");
        states(x, 0, 0, 0, 0, 0, 0, 0, t, t, t, t, 0, 0, 0);
        states(x, 1, 0, 0, 3, 0, 1, 0, s, t, t, t, 1, 0, 0);
        states(x, 2, 0, 0, 2, 0, 1, 0, s, s, t, t, 1, 0, 0);
        states(x, 3, 0, 0, 2, 0, 1, 4, s, s, t, t, 1, 0, 0);
        states(x, 4, 0, 0, 2, 0, 1, 0, s, s, t, t, 1, 1, 0);
        states(x, 5, 0, 0, 2, 2, 2, 0, s, s, u, t, 1, 2, 0);
        states(x, 6, 0, 1, 2, 2, 2, 0, s, s, u, t, 1, 2, 0);
        states(x, 7, 0, 1, 3, 2, 2, 0, t, s, u, t, 1, 2, 0);
        states(x, 8, 1, 1, 3, 2, 2, 0, t, s, u, t, 1, 2, 0);
        due(x.state(0, 0, 9, 0), -2);
        due(x.state(0, 0, 10, 0), -2);
        due(x.state(0, 0, -1, 0), -2);
        for (int what : new int[] {-1, 6, 9, 14, 19, 23, 24, MAX, MIN}) {
            due(x.state(0, 0, 0, what), -2);
        }
        due(x.state(1, 0, 0, 0), -2);
        due(x.state(0, 1, 0, 0), -2);
        tell(x, 1, "day;seal 3;");
        due(x.state(0, 1, 2, 0), 1);
        due(x.state(0, 1, 2, 1), 3);
        due(x.state(0, 1, 3, 1), -2);
        due(x.state(0, 0, 0, 1), 0);
    }

    private static void p13() {
        ReadAloud x = with(SMALL, "");
        due(x.making(0, n("01"), 0, NONE), 2);
        due(x.making(0, n("01"), 0, 0), 0);
        due(x.making(0, n("01"), 0, 1), 0);
        due(x.making(0, n("01"), n("0"), NONE), 2);
        due(x.making(0, n("01"), n("0"), 0), 1);
        due(x.making(0, n("01"), n("0"), 1), 0);
        due(x.making(0, n("01"), n("0"), 2), NONE);
        due(x.making(0, n("01"), n("0"), -2), NONE);
        due(x.making(0, 0, n("01"), NONE), NONE);
        due(x.making(0, 0, n("01"), 0), NONE);
        due(x.making(0, 6, 6, NONE), 0);
        due(x.making(0, 6, 6, 0), NONE);
        due(x.making(1, 6, 6, NONE), 0);
        due(x.making(1, 6, 5, NONE), NONE);
        due(x.making(0, -1, 6, NONE), NONE);
        due(x.making(0, 6, -1, NONE), NONE);
        due(x.making(0, 5461, 6, NONE), NONE);
        due(x.making(0, 6, 5461, NONE), NONE);
        due(x.making(2, 6, 6, NONE), NONE);
        // Of "01" comes "11" by drop, double; or by no other row of two.
        due(x.making(0, n("01"), n("11"), NONE), 2);
        due(x.making(0, n("01"), n("11"), 0), 0);
        due(x.making(0, n("01"), n("11"), 1), 2);
        // The same reading by several READERS: the least of them at each reading.
        ReadAloud y = with("reader;turn;reader;drop 1;reader;drop 1;");
        due(y.making(0, n("00"), 0, 0), 1);
        due(y.making(0, n("00"), 0, 1), 1);
    }

    private static void p14() {
        ReadAloud x = with(SMALL, "kin 0 1;kin 1 2;kin 2 0;reader;shift 0;reader;shift 1;reader;shift 2;");
        due(x.ring(0, n("01")), 2);
        due(x.ring(0, n("00")), 1);
        due(x.ring(0, 0), 1);
        due(x.ring(0, -1), NONE);
        due(x.ring(0, 5461), NONE);
        due(x.ring(2, 0), NONE);
        due(x.ring(-1, 0), NONE);
        due(x.ring(1, n("0")), 1);
        ReadAloud y = with("kin 0 1;kin 1 2;kin 2 3;kin 3 0;reader;shift 0;shift 1;shift 2;", "reader;drop 1;");
        due(y.ring(0, n("0")), NONE);
        due(y.ring(0, n("3")), 1);
        due(y.ring(1, n("0")), NONE);
        due(y.ring(1, 0), 1);
        due(with("").ring(0, 0), NONE);
    }

    private static void p15() {
        ReadAloud x = with(SMALL, "");
        due(x.reach(0, n("0"), false), 7);
        due(x.reach(0, n("0"), true), 5);
        due(x.reach(0, 0, false), 1);
        due(x.reach(0, 0, true), 0);
        due(x.reach(1, 77, false), 1);
        due(x.reach(1, 77, true), 0);
        due(x.reach(0, -1, false), NONE);
        due(x.reach(0, 5461, true), NONE);
        due(x.reach(2, 0, false), NONE);
    }

    private static void p16() {
        ReadAloud x = with(SMALL, "");
        due(x.sound(0, 0), 5461);
        due(x.sound(0, 1), 1);
        due(x.sound(0, 2), 169);
        due(x.sound(0, 4), 4097);
        due(x.sound(0, 6), 65);
        due(x.sound(0, 7), 1);
        due(x.sound(0, 8), NONE);
        due(x.sound(0, -1), NONE);
        due(x.sound(0, MIN), NONE);
        due(x.sound(1, 0), 5461);
        due(x.sound(1, 1), NONE);
        due(x.sound(2, 0), NONE);
        due(with("kin 0 1;reader;shift 0;").sound(0, 1), 1 + 3 + 9 + 27 + 81 + 243 + 729);
    }

    private static void p17() {
        ReadAloud x = with(SMALL);
        due(x.like(0, 0, 1), 25);
        due(x.like(0, 1, 0), 25);
        due(x.like(0, 2, 2), 5461);
        due(x.like(0, 0, 3), NONE);
        due(x.like(0, 3, 0), NONE);
        due(x.like(0, -1, 0), NONE);
        due(x.like(1, 0, 0), NONE);
        due(with("kin 0 1;kin 2 3;reader;shift 0;reader;shift 2;").like(0, 0, 1), 5461);
    }

    private static void orbit(ReadAloud x, int reader, int... want) {
        for (int what = 0; what < 6; what++) {
            due(x.orbits(0, reader, what), want[what]);
        }
    }

    private static void p18() {
        ReadAloud x = with(SMALL);
        orbit(x, 0, 1, 1, 1, 6, 4096, 1);
        orbit(x, 1, 2815, 2, 5461, 0, 0, 169);
        due(x.orbits(0, 0, -1), NONE);
        due(x.orbits(0, 0, 6), NONE);
        due(x.orbits(0, 3, 0), NONE);
        due(x.orbits(0, -1, 0), NONE);
        due(x.orbits(1, 0, 0), NONE);
        // WORDS move round in the first three places: rings of 3, but of 1 where all three are the same.
        ReadAloud y = with("reader;swap 1;swap 2;");
        int shorter = 1 + 4 + 4;
        int pairs = 6;
        int ends = 1 + 4 + 16 + 64;
        int stay = shorter + 4 * ends;
        orbit(y, 0, shorter + pairs + 4 * ends + 20 * ends, 3, 5461, 0, 0, stay);
    }

    private static void p19() {
        ReadAloud x = with(SMALL, "");
        due(x.rota(0, 0, 0), 0);
        due(x.rota(0, 0, 1), 0);
        due(x.rota(0, 0, 10), NONE);
        due(x.rota(0, 1, 0), 1);
        due(x.rota(0, 1, 1), 2);
        due(x.rota(0, 1, 10), 0);
        due(x.rota(0, 1, 11), NONE);
        due(x.rota(0, 2, 0), 0);
        due(x.rota(0, 2, 1), 2);
        due(x.rota(0, 2, 10), 1);
        due(x.rota(0, 2, 11), 1);
        due(x.rota(0, 9, 0), 0);
        due(x.rota(0, 9, 18) >= 0, true);
        due(x.rota(0, 9, 19), NONE);
        due(x.rota(1, 0, 0), 0);
        due(x.rota(1, 0, 1), 0);
        due(x.rota(1, 1, 0), NONE);
        for (int what : new int[] {-1, 2, 9, 12, MAX, MIN}) {
            due(x.rota(0, 2, what), NONE);
        }
        due(x.rota(0, -1, 0), NONE);
        due(x.rota(0, 10, 0), NONE);
        due(x.rota(2, 0, 0), NONE);
    }

    private static void p20() {
        ReadAloud x = with(SMALL, "text 3;");
        due(x.mean(0, 0, false), 0);
        due(x.mean(0, 0, true), 1);
        due(x.mean(0, 1, false), 4);
        due(x.mean(0, 1, true), 3);
        due(x.mean(0, 2, false), 11);
        due(x.mean(0, 2, true), 9);
        due(x.mean(1, 0, false), 0);
        due(x.mean(1, 0, true), 1);
        due(x.mean(1, 1, false), NONE);
        due(x.mean(1, 1, true), NONE);
        due(x.mean(0, -1, true), NONE);
        due(x.mean(0, 10, true), NONE);
        due(x.mean(2, 0, true), NONE);
        // Four of five READERS leave the TEXT, one empties it: (1 - (4/5)^9) of one WORD.
        ReadAloud y = with("text 1;reader;reader;reader;reader;reader;drop 1;");
        due(y.mean(0, 9, false), 1953125 - 262144);
        due(y.mean(0, 9, true), 1953125);
    }

    private static void p21() {
        ReadAloud x = with(SMALL, "");
        due(x.elders(0, n("0"), 1, false), 5);
        due(x.elders(0, n("0"), 1, true), n("0"));
        due(x.elders(0, 0, 1, false), 5);
        due(x.elders(0, 0, 1, true), 0);
        due(x.elders(0, 77, 0, false), 1);
        due(x.elders(0, 77, 0, true), 77);
        due(x.elders(1, 77, 0, true), 77);
        due(x.elders(1, 77, 1, false), 0);
        due(x.elders(1, 77, 1, true), NONE);
        due(x.elders(0, 0, 9, false), 5461);
        due(x.elders(0, 0, -1, false), -2);
        due(x.elders(0, 0, 10, false), -2);
        due(x.elders(0, -1, 1, false), -2);
        due(x.elders(0, 5461, 1, true), -2);
        due(x.elders(2, 0, 1, true), -2);
        ReadAloud y = with("reader;drop 1;");
        due(y.elders(0, n("1"), 2, false), 16);
        due(y.elders(0, n("1"), 2, true), n("001"));
        due(y.elders(0, n("1"), 6, false), 0);
        due(y.elders(0, n("1"), 6, true), NONE);
    }

    private static void p22() {
        ReadAloud x = with(SMALL, "");
        due(x.play(0, 0, 0, 7, 7, false), 1);
        due(x.play(0, 0, 2, 7, 7, false), 0);
        due(x.play(0, 0, 0, 7, 7, true), NONE);
        due(x.play(0, 1, 0, 7, 0, false), 2);
        due(x.play(0, 1, 0, 7, 0, true), 2);
        due(x.play(0, 1, 0, 3, 0, false), 1);
        due(x.play(0, 1, 0, 3, 0, true), 1);
        due(x.play(0, 1, 3, 7, 7, true), 0);
        due(x.play(0, 2, 0, 7, 7, false), 1);
        due(x.play(0, 2, 0, 7, 7, true), 1);
        due(x.play(0, 2, 0, 4, 4, false), 3);
        due(x.play(0, 3, 0, 4, 1, false), 2);
        due(x.play(0, 9, 0, 4, 2, true), 2);
        due(x.play(0, 1, 0, 0, 7, false), NONE);
        due(x.play(0, 2, 0, 0, 7, false), NONE);
        due(x.play(0, 2, 0, 7, 0, false), NONE);
        due(x.play(0, 9, 0, 7, 0, true), NONE);
        due(x.play(0, 1, 0, 8, 1, false), NONE);
        due(x.play(0, 1, 0, 1, 8, false), NONE);
        due(x.play(0, 1, 0, -1, 1, false), NONE);
        due(x.play(0, 1, -1, 1, 1, false), NONE);
        due(x.play(0, 1, 4, 1, 1, false), NONE);
        due(x.play(0, -1, 0, 1, 1, false), NONE);
        due(x.play(0, 10, 0, 1, 1, false), NONE);
        due(x.play(2, 1, 0, 1, 1, false), NONE);
        due(x.play(1, 1, 0, 1, 1, false), NONE);
    }

    private static void p23() {
        ReadAloud x = new ReadAloud();
        tell(x, 2, "seen 9 3 2 1;seen 0;");
        due(x.fact(0, NONE, 0), 2);
        due(x.fact(0, 0, 0), 9);
        due(x.fact(0, 0, 1), n("321"));
        due(x.fact(0, 1, 0), 0);
        due(x.fact(0, 1, 1), 0);
        due(x.fact(0, 1, 2), -2);
        due(x.fact(0, 1, -1), -2);
        due(x.fact(0, 2, 0), -2);
        due(x.fact(0, -2, 0), -2);
        due(x.fact(0, NONE, 1), -2);
        due(x.fact(1, NONE, 0), -2);
        due(x.fact(-1, NONE, 0), -2);
    }

    private static void p24() {
        ReadAloud x = with(SMALL, "");
        due(x.fits(0, 0, 1, NONE), NONE);
        tell(x, 2, "seen 2 0 1;");
        tell(x, 2, "seen 1 1 0;seen 1 0 0 1;");
        due(x.fits(0, 0, 0, NONE), 1);
        due(x.fits(0, 0, 0, 6), 1);
        due(x.fits(0, 0, 0, 7), 0);
        due(x.fits(0, 0, 1, NONE), 3);
        due(x.fits(0, 0, 2, NONE), 2);
        due(x.fits(0, 0, 2, n("01")), 2);
        due(x.fits(0, 0, 2, n("10")), 0);
        due(x.fits(0, 0, 3, NONE), 6);
        due(x.fits(0, 0, 3, n("10")), 2);
        due(x.fits(0, 1, 0, NONE), 1);
        due(x.fits(0, 1, 1, NONE), 0);
        due(x.fits(0, 1, 9, NONE), 0);
        due(x.fits(1, 1, 0, NONE), 1);
        due(x.fits(1, 0, 1, NONE), 0);
        due(x.fits(0, 0, -1, NONE), NONE);
        due(x.fits(0, 0, 10, NONE), NONE);
        due(x.fits(0, 0, 1, -2), NONE);
        due(x.fits(0, 0, 1, 5461), NONE);
        due(x.fits(2, 0, 1, NONE), NONE);
        due(x.fits(0, 2, 1, NONE), NONE);
        put(x, "");
        x.text(2, 0);
        due(x.fits(0, 0, 9, NONE), 19683);
        put(x, "seen 1 1 0;seen 1 1 0;");
        x.text(2, 0);
        due(x.fits(0, 0, 1, NONE), 1);
        put(x, "seen 0;");
        x.text(2, 0);
        due(x.fits(0, 0, 0, NONE), 0);
    }

    private static void p25() {
        ReadAloud x = with(SMALL, "");
        tell(x, 2, "seen 2 0 1;");
        tell(x, 2, "seen 1 1 0;");
        due(x.sure(0, 0, 2, 0), NONE);
        due(x.sure(0, 0, 2, 1), NONE);
        due(x.sure(0, 0, 2, NONE), 1);
        due(x.sure(0, 0, 0, NONE), 0);
        due(x.sure(0, 0, 0, 0), NONE);
        due(x.sure(0, 1, 1, 0), 1);
        due(x.sure(0, 1, 1, NONE), 0);
        due(x.sure(0, 1, 2, 0), 1);
        due(x.sure(0, 1, 2, 1), NONE);
        due(x.sure(0, 1, 2, NONE), 2);
        due(x.sure(0, 1, 2, 2), NONE);
        due(x.sure(0, 1, 2, -2), NONE);
        due(x.sure(0, 1, -1, NONE), NONE);
        due(x.sure(0, 1, 10, NONE), NONE);
        due(x.sure(0, 2, 1, 0), NONE);
        due(x.sure(2, 1, 1, 0), NONE);
        due(x.sure(1, 0, 1, NONE), NONE);
        due(x.sure(1, 0, 0, NONE), NONE + 1);
        // A later FACT makes an earlier reading sure: of "01", "1" comes by drop alone.
        put(x, "seen 2 1 1;");
        x.text(2, 0);
        due(x.sure(0, 0, 2, 0), 0);
        due(x.sure(0, 0, 2, 1), 2);
        put(x, "seen 0;");
        x.text(2, 0);
        due(x.sure(0, 0, 0, NONE), NONE);
    }

    private static void drawing(ReadAloud x, int seed, int n, int day, int hushed, String... copies) {
        due(x.drawn(0, seed, n, 0), day);
        due(x.drawn(0, seed, n, 1), 0);
        due(x.drawn(0, seed, n, 5), hushed);
        for (int c = 0; c < 4; c++) {
            due(x.drawn(0, seed, n, 10 + c), n(copies[c]));
        }
    }

    private static void p26() {
        ReadAloud x = with(SMALL, "text 0 1;");
        drawing(x, 0, 0, 0, 0, "01", "01", "01", "01");
        drawing(x, 0, 6, 0, 0, "1", "1", "1", "01");
        due(x.drawn(0, 0, 6, 20), 2);
        due(x.drawn(0, 0, 6, 21), 1);
        due(x.drawn(0, 0, 6, 22), 0);
        due(x.drawn(0, 0, 6, 2), 1);
        due(x.drawn(0, 0, 6, 3), 0);
        due(x.drawn(0, 0, 6, 4), 1);
        drawing(x, 1, 6, 1, 4, "01", "1", "01", "001");
        drawing(x, 7, 6, 0, 8, "01", "0001", "01", "01");
        drawing(x, -5, 6, 1, 0, "1", "001", "01", "10");
        drawing(x, 2026, 6, 1, 9, "01", "01", "10", "01");
        drawing(x, 7, 60, 8, 0, "00001", "110", "00001", "00001");
        drawing(x, -5, 60, 5, 0, "", "000", "", "01");
        due(x.drawn(1, 1, 60, 0), 6);
        due(x.drawn(1, 1, 60, 5), 15);
        due(x.drawn(1, 1, 60, 20), -2);
        due(x.drawn(0, 1, 61, 0), -2);
        due(x.drawn(0, 1, -1, 0), -2);
        due(x.drawn(2, 1, 1, 0), -2);
        due(x.drawn(-1, 1, 1, 0), -2);
        for (int what : new int[] {-1, 6, 9, 14, 19, 23, MAX, MIN}) {
            due(x.drawn(0, 1, 1, what), -2);
        }
    }

    private static void p27() {
        ReadAloud x = with("kin 0 1;kin 1 2;kin 2 1;", "kin 0 1;kin 1 2;kin 2 3;");
        int[][] want = {{1, 2}, {0, 2}, {0, 2}, {0, 1}, {3, 1}, {2, 1}, {1, 1}, {0, 1}};
        for (int i = 0; i < 8; i++) {
            due(x.kinship(i / 4, i % 4, false), want[i][0]);
            due(x.kinship(i / 4, i % 4, true), want[i][1]);
        }
        due(x.kinship(0, -1, false), NONE);
        due(x.kinship(0, 4, true), NONE);
        due(x.kinship(2, 0, true), NONE);
        due(with("kin 0 1;kin 1 2;kin 2 3;kin 3 0;").kinship(0, 2, true), 4);
    }

    private static void p28() {
        ReadAloud x = new ReadAloud();
        due(x.shared(n("0120"), n("1002"), false), 2);
        due(x.shared(n("0120"), n("1002"), true), n("00"));
        due(x.shared(n("10"), n("01"), false), 1);
        due(x.shared(n("10"), n("01"), true), n("0"));
        due(x.shared(n("0"), n("1"), false), 0);
        due(x.shared(n("0"), n("1"), true), 0);
        due(x.shared(5460, 5460, false), 6);
        due(x.shared(5460, 5460, true), 5460);
        due(x.shared(n("321"), n("3210"), true), n("321"));
        due(x.shared(0, 5460, false), 0);
        due(x.shared(-1, 0, false), NONE);
        due(x.shared(0, 5461, true), NONE);
    }

    private static void p29() {
        ReadAloud x = with(SMALL, "reader;turn;");
        due(x.joined(0, n("10"), n("01"), false), 1);
        due(x.joined(0, n("10"), n("01"), true), n("01"));
        due(x.joined(0, n("0"), n("1"), false), 2);
        due(x.joined(0, n("0"), n("1"), true), 0);
        due(x.joined(0, 6, 6, false), 0);
        due(x.joined(0, 6, 6, true), 6);
        due(x.joined(1, n("0"), n("1"), false), NONE);
        due(x.joined(1, n("0"), n("1"), true), NONE);
        due(x.joined(0, -1, 0, false), NONE);
        due(x.joined(0, 0, 5461, true), NONE);
        due(x.joined(2, 0, 0, true), NONE);
    }

    private static void p30() {
        ReadAloud x = with(SMALL, "");
        due(x.nearest(0, 0, n("01"), false), 2);
        due(x.nearest(0, 0, n("01"), true), 0);
        due(x.nearest(0, n("01"), n("11"), false), 0);
        due(x.nearest(0, n("01"), n("11"), true), n("11"));
        due(x.nearest(0, n("01"), n("2"), false), 1);
        due(x.nearest(0, n("01"), n("2"), true), 0);
        due(x.nearest(1, n("01"), n("2"), false), 2);
        due(x.nearest(1, n("01"), n("2"), true), n("01"));
        due(x.nearest(0, -1, 0, false), NONE);
        due(x.nearest(0, 0, 5461, true), NONE);
        due(x.nearest(2, 0, 0, true), NONE);
    }

    private static void p31() {
        ReadAloud x = with(SMALL, "reader;turn;");
        due(x.settles(0, n("01"), false), 2);
        due(x.settles(0, n("01"), true), 0);
        due(x.settles(0, 0, false), 0);
        due(x.settles(1, n("01"), false), NONE);
        due(x.settles(1, n("01"), true), NONE);
        due(x.settles(1, n("00"), false), 0);
        due(x.settles(1, n("00"), true), n("00"));
        due(x.settles(0, -1, true), NONE);
        due(x.settles(0, 5461, false), NONE);
        due(x.settles(2, 0, false), NONE);
        due(with("").settles(0, 77, true), 77);
        // Both READERS make a full TEXT of it by one reading: the least one, not the first one's.
        ReadAloud y = with("reader;double 2;reader;double 1;");
        due(y.settles(0, n("01111"), false), 1);
        due(y.settles(0, n("01111"), true), n("001111"));
        due(y.settles(0, n("0111"), false), 2);
        due(y.settles(0, n("0111"), true), n("000111"));
        ReadAloud z = with("reader;drop 1;drop 1;drop 1;drop 1;reader;drop 2;drop 2;drop 2;");
        due(z.settles(0, n("0123"), false), 1);
        due(z.settles(0, n("0123"), true), 0);
    }

    private static void p32() {
        ReadAloud x = with(SMALL, "reader;drop 1;");
        due(x.unmade(0, false), 0);
        due(x.unmade(0, true), NONE);
        due(x.unmade(1, false), 4096);
        due(x.unmade(1, true), 1365);
        due(x.unmade(2, false), -2);
        due(x.unmade(-1, true), -2);
        due(with("").unmade(0, false), 5461);
        due(with("").unmade(0, true), 0);
        due(with("reader;").unmade(0, true), NONE);
    }

    private static void p33() {
        ReadAloud x = with(SMALL, "reader;drop 1;reader;drop 2;reader;drop 1;turn;");
        due(x.silenced(0, n("01"), n("10")), 2);
        due(x.silenced(0, n("01"), 0), 1);
        due(x.silenced(0, n("01"), n("1")), 1);
        due(x.silenced(0, 0, n("01")), 0);
        due(x.silenced(0, 6, 6), NONE);
        due(x.silenced(1, n("0"), 0), 5);
        // Of two READERS, each of whom is needed, the least.
        due(x.silenced(0, n("01"), n("0")), 1);
        due(with("reader;drop 1;reader;turn;drop 1;reader;drop 1;turn;").silenced(0, n("0"), 0), 7);
        due(x.silenced(0, -1, 0), NONE);
        due(x.silenced(0, 0, 5461), NONE);
        due(x.silenced(2, 0, 1), NONE);
    }

    private static void p34() {
        ReadAloud x = with("reader;turn;", "");
        due(x.circles(0, NONE), 2815);
        due(x.circles(0, -2), 2);
        due(x.circles(0, n("01")), 2);
        due(x.circles(0, n("00")), 1);
        due(x.circles(1, NONE), 5461);
        due(x.circles(1, -2), 1);
        due(x.circles(1, 5460), 1);
        due(x.circles(0, -3), NONE);
        due(x.circles(0, 5461), NONE);
        due(x.circles(2, NONE), NONE);
        due(x.circles(-1, -2), NONE);
        // By drop and double "0" .. "000000" make each of each, and never "" again of them.
        ReadAloud y = with(SMALL);
        due(y.circles(0, n("000")), 6);
        due(y.circles(0, 0), 1);
    }

    private static void p35() {
        ReadAloud x = new ReadAloud();
        tell(x, 0, "");
        tell(x, 0, "");
        tell(x, 2, "");
        due(x.count(0), 2);
        due(x.count(1), 0);
        due(x.count(2), 1);
        due(x.count(3), -2);
        due(x.count(-1), -2);
        due(x.count(MIN), -2);
    }

    private static void p36() {
        ReadAloud x = new ReadAloud();
        due(x.image(-1), false);
        due(x.image(3), false);
        due(x.image(MAX), false);
        due(x.again(0), false);
        due(x.image(0), true);
        due(x.image(2), true);
        due(x.again(1), false);
        due(x.again(2), true);
        tell(x, 0, "text 1;");
        due(x.image(2), true);
        due(x.again(0), true);
        due(x.count(0), 0);
        due(x.again(2), true);
        due(x.count(0), 1);
    }

    private static void p37() {
        ReadAloud x = new ReadAloud();
        tell(x, 0, "text 1;reader;turn;");
        tell(x, 1, "day;");
        tell(x, 2, "seen 1;");
        tell(x, 0, "text 9;");
        put(x, "text 3;");
        x.image(1);
        due(x.reach(0, n("01"), false), 2);
        due(x.text(0, 0), 0);
        tell(x, 0, "");
        tell(x, 1, "");
        tell(x, 2, "");
        due(x.reach(0, n("01"), false), 1);
        due(x.again(1), true);
        due(x.count(0), 1);
        due(x.count(1), 1);
        due(x.count(2), 1);
        due(x.book(0, 0), n("1"));
        due(x.reach(0, n("01"), false), 2);
        due(x.fault(0), 2);
        due(x.fault(1), 5);
        due(x.text(0, NONE), 1);
        due(x.book(1, 0), n("3"));
        due(x.again(1), true);
        due(x.count(0), 1);
        put(x, "reader;turn;reader;turn;");
        due(x.again(1), true);
        due(x.end(8), NONE);
        due(x.end(7), 7);
        due(x.text(0, NONE), 1);
        due(x.book(1, 0), n("3"));
        due(x.book(1, 1), 0);
        due(x.again(1), true);
        due(x.deed(0, NONE, 0), 1);
        due(x.fact(0, NONE, 0), 1);
        tell(x, 1, "");
        x.text(1, 0);
        x.text(2, 0);
        due(x.again(1), true);
        due(x.deed(0, NONE, 0), 1);
        due(x.fact(0, NONE, 0), 1);
        due(x.again(-1), false);
        due(x.again(3), false);
        due(x.again(0), false);
        due(x.again(MIN), false);
    }

    private static void all() {
        says("promise 1"); p1();
        says("promise 2"); p2();
        says("promise 3"); p3();
        says("promise 4"); p4();
        says("promise 5"); p5();
        says("promise 6"); p6();
        says("promise 7"); p7();
        says("promise 8"); p8();
        says("promise 9"); p9();
        says("promise 10"); p10();
        says("promise 11"); p11();
        says("promise 12"); p12();
        says("promise 13"); p13();
        says("promise 14"); p14();
        says("promise 15"); p15();
        says("promise 16"); p16();
        says("promise 17"); p17();
        says("promise 18"); p18();
        says("promise 19"); p19();
        says("promise 20"); p20();
        says("promise 21"); p21();
        says("promise 22"); p22();
        says("promise 23"); p23();
        says("promise 24"); p24();
        says("promise 25"); p25();
        says("promise 26"); p26();
        says("promise 27"); p27();
        says("promise 28"); p28();
        says("promise 29"); p29();
        says("promise 30"); p30();
        says("promise 31"); p31();
        says("promise 32"); p32();
        says("promise 33"); p33();
        says("promise 34"); p34();
        says("promise 35"); p35();
        says("promise 36"); p36();
        says("promise 37"); p37();
    }

    public static void main(String[] args) {
        all();
        finish();
    }
}
