/**
 * What the tests share: texts put on the tape, NUMBERS of TEXTS, and the count of answers that are not as due.
 * A test extends it, so as to use these by their bare names.
 */
abstract class Kit {
    static final int NONE = ReadAloud.NONE;
    static final int NO_SUCH = -2;
    static final int MIN = Integer.MIN_VALUE;
    static final int MAX = Integer.MAX_VALUE;
    static final int TEXTS = 5461;

    private static String about = "";
    private static int rows = 0;
    private static int wrong = 0;

    /** What the answers below are about: a promise, or a sentence of the document. */
    static void says(String sentence) {
        about = sentence;
    }

    static void due(long got, long want) {
        rows++;
        if (got != want) {
            wrong++;
            System.out.println("\"" + about + "\", " + place() + ": answered " + got + ", due is " + want);
        }
    }

    static void due(boolean got, boolean want) {
        due(got ? 1 : 0, want ? 1 : 0);
    }

    private static String place() {
        StringBuilder s = new StringBuilder("lines");
        for (StackTraceElement e : new Throwable().getStackTrace()) {
            if (!e.getClassName().equals("Kit") && e.getLineNumber() > 0 && e.getFileName() != null && e.getFileName().endsWith("Tests.java")) {
                s.append(' ').append(e.getLineNumber());
            }
        }
        return s.toString();
    }

    static void finish() {
        System.out.println(wrong == 0 ? rows + " answers are as due" : wrong + " answers are not as due");
        if (wrong != 0) {
            System.exit(1);
        }
    }

    /** The NUMBER of a TEXT that is written as a row of the signs 0 .. 3. */
    static int n(String words) {
        int number = 0;
        for (char c : words.toCharArray()) {
            number = 4 * number + 1 + (c - '0');
        }
        return number;
    }

    static String many(String line, int times) {
        return line.repeat(times);
    }

    /** Twenty signs from a place on, as feed() takes them; what is behind the text is no sign of any token. */
    static int feed(ReadAloud x, String text, int from) {
        int[] five = new int[5];
        for (int j = 0; j < 20; j++) {
            char c = from + j < text.length() ? text.charAt(from + j) : '#';
            five[j / 4] = five[j / 4] << 8 | c & 255;
        }
        return x.feed(five[0], five[1], five[2], five[3], five[4]);
    }

    /** The tape is the text, and nothing else. */
    static void put(ReadAloud x, String text) {
        x.end(0);
        for (int i = 0; i < text.length(); i += 20) {
            feed(x, text, i);
        }
        x.end(text.length());
    }

    static int tell(ReadAloud x, int sort, String text) {
        return tell(x, sort, NONE, text);
    }

    static int tell(ReadAloud x, int sort, int at, String text) {
        put(x, text);
        return x.text(sort, at);
    }

    static ReadAloud with(String... books) {
        ReadAloud x = new ReadAloud();
        for (int i = 0; i < books.length; i++) {
            due(tell(x, 0, books[i]), i);
        }
        return x;
    }
}
