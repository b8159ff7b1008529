import java.lang.management.ManagementFactory;
import java.lang.reflect.Constructor;
import java.lang.reflect.Field;
import java.lang.reflect.Method;
import java.lang.reflect.Modifier;
import java.nio.file.Files;
import java.nio.file.Path;
import java.util.ArrayList;
import java.util.List;
import java.util.Map;
import java.util.Set;
import java.util.TreeMap;
import java.util.TreeSet;
import java.util.regex.Matcher;
import java.util.regex.Pattern;

/** Those rules of LANGUAGE.md that can be seen from outside or in the source, and the room that a run needs. */
public final class RulesTests extends Kit {
    private static final String FACE = "int feed(int,int,int,int,int) int end(int) int text(int,int) int fault(int) int book(int,int) "
        + "int word(int,int) int drift(int,int) int read(int,int,int) int deed(int,int,int) int stop(int,int) int state(int,int,int,int) "
        + "int making(int,int,int,int) int ring(int,int) int reach(int,int,boolean) int sound(int,int) int like(int,int,int) "
        + "int orbits(int,int,int) int rota(int,int,int) long mean(int,int,boolean) int elders(int,int,int,boolean) "
        + "int play(int,int,int,int,int,boolean) int fact(int,int,int) int fits(int,int,int,int) int sure(int,int,int,int) "
        + "int drawn(int,int,int,int) int kinship(int,int,boolean) int shared(int,int,boolean) int joined(int,int,int,boolean) "
        + "int nearest(int,int,int,boolean) int settles(int,int,boolean) int unmade(int,boolean) int silenced(int,int,int) "
        + "int circles(int,int) int count(int) boolean image(int) boolean again(int)";
    private static final Pattern METHOD = Pattern.compile("( {4}| {8})(?! )[\\w\\[\\]. ]*?(\\w+)\\([^)]*\\) \\{");
    private static int wrong = 0;

    private static void must(boolean so, String what) {
        if (!so) {
            wrong++;
            System.out.println("not so: " + what);
        }
    }

    private static Set<String> face() {
        Set<String> face = new TreeSet<>();
        Matcher m = Pattern.compile("\\w+ \\w+\\([^)]*\\)").matcher(FACE);
        while (m.find()) {
            face.add(m.group());
        }
        return face;
    }

    private static void checkFace() {
        Class<ReadAloud> c = ReadAloud.class;
        must(Modifier.isPublic(c.getModifiers()) && Modifier.isFinal(c.getModifiers()), "the class is public and final");
        Set<String> there = new TreeSet<>();
        Set<String> names = new TreeSet<>();
        for (Method m : c.getDeclaredMethods()) {
            if (!Modifier.isPrivate(m.getModifiers())) {
                StringBuilder s = new StringBuilder(m.getReturnType() + " " + m.getName() + "(");
                for (Class<?> p : m.getParameterTypes()) {
                    s.append(s.charAt(s.length() - 1) == '(' ? "" : ",").append(p);
                }
                there.add(s.append(')').toString());
                names.add(m.getName());
                must(Modifier.isPublic(m.getModifiers()), m + " is public");
            }
        }
        must(there.equals(face()), "the methods are those of the face: " + there);
        for (Constructor<?> k : c.getDeclaredConstructors()) {
            must(Modifier.isPublic(k.getModifiers()) && k.getParameterCount() == 0, "the constructor is the face's: " + k);
        }
        for (Field f : c.getDeclaredFields()) {
            must(Modifier.isPrivate(f.getModifiers()) || f.getName().equals("NONE"), f + " is private");
        }
        must(c.getDeclaredClasses().length + 1 <= 12, "there are at most twelve classes");
        List<Class<?>> all = new ArrayList<>(List.of(c.getDeclaredClasses()));
        for (Class<?> k : all) {
            must(Modifier.isStatic(k.getModifiers()), k + " is static");
        }
        all.add(c);
        for (Class<?> k : all) {
            checkMembers(k, names);
        }
    }

    private static void checkMembers(Class<?> c, Set<String> names) {
        int fields = 0;
        for (Field f : c.getDeclaredFields()) {
            if (Modifier.isStatic(f.getModifiers())) {
                must(Modifier.isFinal(f.getModifiers()), f + " is final");
            } else {
                fields++;
            }
        }
        must(fields <= 20, c + " has at most twenty fields");
        for (Method m : c.getDeclaredMethods()) {
            must(m.getParameterCount() <= 7, m + " has at most seven parameters");
            must(Modifier.isPublic(m.getModifiers()) || !names.contains(m.getName()), m + " has a name of its own");
        }
    }

    private static void checkSource(String source) {
        String code = source.replaceAll("(?s)/\\*.*?\\*/", "").replaceAll("//[^\n]*", "").replaceAll("\"[^\"]*\"", "\"\"");
        String[] never = {"throw", "try", "catch", "synchronized", "assert", "package", "protected", "double", "float", "Exact", "Object",
            "equals", "hashCode", "toString", "->", "::", "@", "System\\.(?!arraycopy)", "Random", "Thread"};
        for (String word : never) {
            String edge = word.matches("\\w+") ? "\\b" : "";
            must(!Pattern.compile(edge + word + (word.equals("Exact") ? "" : edge)).matcher(code).find(), "there is no " + word);
        }
        for (String line : code.split("\n")) {
            must(!line.startsWith("import") || line.equals("import java.util.Arrays;"), line);
            must(line.chars().allMatch(c -> c < 128), "plain signs: " + line);
        }
        checkLengths(code.split("\n"));
        checkDepth(callsOf(code.split("\n")));
    }

    /** Which methods a method calls, by names; methods of one name count as one, which can only seem deeper. */
    private static Map<String, Set<String>> callsOf(String[] lines) {
        Map<String, Set<String>> calls = new TreeMap<>();
        Set<String> calledHere = null;
        for (String line : lines) {
            Matcher head = METHOD.matcher(line);
            if (head.matches()) {
                calledHere = calls.computeIfAbsent(head.group(2), name -> new TreeSet<>());
            } else if (calledHere != null) {
                Matcher call = Pattern.compile("(\\w+)\\(").matcher(line);
                while (call.find()) {
                    calledHere.add(call.group(1));
                }
            }
        }
        return calls;
    }

    /** Rule 11: calls go at most eight deep; a recursion, of which there is none, would go on to the bound. */
    private static void checkDepth(Map<String, Set<String>> calls) {
        must(calls.size() > 100, "the methods are found: " + calls.keySet());
        int deepest = 0;
        for (String name : calls.keySet()) {
            int depth = depthOf(name, calls, 20);
            must(depth <= 8, name + " goes at most eight calls deep: " + depth);
            deepest = Math.max(deepest, depth);
        }
        must(deepest > 5, "calls are found: " + deepest);
    }

    private static int depthOf(String name, Map<String, Set<String>> calls, int bound) {
        int deepest = 0;
        if (bound > 0) {
            for (String called : calls.get(name)) {
                if (calls.containsKey(called)) {
                    deepest = Math.max(deepest, depthOf(called, calls, bound - 1));
                }
            }
        }
        return deepest + 1;
    }

    private static void checkLengths(String[] lines) {
        int start = -1;
        String indent = "";
        for (int i = 0; i < lines.length; i++) {
            Matcher m = METHOD.matcher(lines[i]);
            if (m.matches()) {
                start = i;
                indent = m.group(1);
            } else if (start >= 0 && lines[i].equals(indent + "}")) {
                must(i - start < 60, "at most sixty lines: " + lines[start]);
                start = -1;
            }
        }
    }

    private static void put(ReadAloud x, int sort, int at, String text) {
        must(tell(x, sort, at, text) >= 0, text);
    }

    /** Every dear call several times, with texts between, so that nothing can be taken from the call before. */
    private static void dearRun() {
        ReadAloud x = new ReadAloud();
        String book = "text 0 1 2 3 0 1;kin 0 1;kin 1 2;kin 2 3;kin 3 0;reader;shift 0;reader;swap 1;turn;reader;turn;swap 3;shift 1;"
            + "reader;drop 1;turn;reader;double 2;shift 2;turn;";
        put(x, 0, -1, book);
        put(x, 0, -1, book);
        put(x, 1, -1, "read 0 1;copy 0 1;");
        put(x, 2, -1, "seen 9 0 1;");
        // A round has 23 calls and some 12 more for its text: in all they are less than the 512 that an object is for.
        for (int i = 0; i < 12; i++) {
            int b = i % 2;
            put(x, 0, b, book);
            x.image(i % 3);
            x.again(i % 3);
            x.state(b, 0, 2, 4);
            x.making(b, 300 + i, 5460, 3);
            x.ring(b, 5000 + i);
            x.reach(b, 300 + i, true);
            x.sound(b, 31);
            x.like(b, 0, 4);
            x.orbits(b, i % 5, 1);
            x.rota(b, 9, 18);
            x.mean(b, 9, true);
            x.elders(b, 300 + i, 9, true);
            x.play(b, 9, 1, 31, 31, true);
            x.fits(b, 0, 9, -1);
            x.sure(b, 0, 9, -1);
            x.drawn(b, i, 60, 4);
            x.shared(5460 - i, 1365 + i, true);
            x.joined(b, 300 + i, 1365, true);
            x.nearest(b, 300 + i, 1365, true);
            x.settles(b, 300 + i, true);
            x.unmade(b, true);
            x.silenced(b, 300 + i, 5460);
            x.circles(b, 300 + i);
        }
    }

    /** As many texts as an object has calls: each one makes a BOOK, YEAR or SIGHT anew. */
    private static void tellingRun() {
        ReadAloud x = new ReadAloud();
        for (int i = 0; i < 510; i++) {
            int sort = i / 2 % 3;
            must(x.text(sort, i < 6 ? -1 : i % 2) == i % 2, "text " + i);
        }
        x.image(0);
    }

    private static long bytesOf(Runnable run) {
        com.sun.management.ThreadMXBean threads = (com.sun.management.ThreadMXBean) ManagementFactory.getThreadMXBean();
        run.run();
        long before = threads.getThreadAllocatedBytes(Thread.currentThread().getId());
        run.run();
        return threads.getThreadAllocatedBytes(Thread.currentThread().getId()) - before;
    }

    private static void checkRoom() {
        // Of a run's own rows nearly all are of ints: this is well below the room's 7.3 million elements.
        long dear = bytesOf(RulesTests::dearRun);
        must(dear < 3000000, "a run of dear calls makes rows of few bytes: " + dear);
        long telling = bytesOf(RulesTests::tellingRun);
        must(telling < 1000000, "a run of texts makes rows of few bytes: " + telling);
    }

    public static void main(String[] args) throws Exception {
        checkFace();
        checkSource(Files.readString(Path.of("src/main/java/ReadAloud.java")));
        checkRoom();
        System.out.println(wrong == 0 ? "the rules are kept" : wrong + " rules are not kept");
        if (wrong != 0) {
            System.exit(1);
        }
    }
}
