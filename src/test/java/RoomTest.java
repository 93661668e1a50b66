import java.lang.management.ManagementFactory;
import java.lang.reflect.Array;
import java.lang.reflect.Field;
import java.lang.reflect.Modifier;
import java.nio.file.Files;
import java.nio.file.Path;
import java.util.ArrayDeque;
import java.util.Collections;
import java.util.Deque;
import java.util.IdentityHashMap;
import java.util.Map;
import java.util.Set;
import java.util.TreeMap;
import java.util.TreeSet;
import java.util.regex.Matcher;
import java.util.regex.Pattern;

/** How much room an object takes, that its calls take none beside it, and how deep calls go. Runs in the project's folder. */
public final class RoomTest {
    private static final int MOST_DEEP = 8;
    private static final String DEAR = "places 6;person 1 0 1 2 3 4 5;person 2 0 1;person 3 0;person 4 0 1 2;person 5 0;person 6 1;"
        + "person 7 0 2;blind 8 0;thing 1 9 0 by 1;thing 2 8 1 by 2;thing 3 7 2 by 3;thing 4 6 3 by 4;thing 5 5 4 by 5;"
        + "thing 6 4 5 by 6;thing 7 3 6 by 7;thing 8 2 7 by 0;thing 9 1 0 by 2;thing 10 0 1 by 3;term 99;"
        + "shames (odd+eyes-vanity)*(count<9)/2+weight/30;returns 60<shame+vanity and many<3 or not day;";
    private static int wrong;

    public static void main(String[] args) throws Exception {
        roomOfAnObject();
        roomOfCalls();
        depthOfCalls(Files.readString(Path.of("src/main/java/WornThings.java")));
        System.out.println("RoomTest: " + wrong + " wrong");
        if (wrong > 0) {
            System.exit(1);
        }
    }

    private static void need(boolean holds, String what) {
        if (!holds) {
            wrong++;
            System.out.println("RoomTest: " + what);
        }
    }

    /** A run has room for some 7,300,000 fields and elements, and 600,000 objects: a thousand new objects must fit well. */
    private static void roomOfAnObject() throws IllegalAccessException {
        Set<Object> seen = Collections.newSetFromMap(new IdentityHashMap<>());
        Deque<Object> open = new ArrayDeque<>();
        open.add(new WornThings());
        int elements = 0;
        while (!open.isEmpty()) {
            Object o = open.remove();
            if (!seen.add(o)) {
                continue;
            }
            if (o.getClass().isArray()) {
                elements += Array.getLength(o);
                continue;
            }
            for (Field f : o.getClass().getDeclaredFields()) {
                if (!Modifier.isStatic(f.getModifiers())) {
                    elements++;
                    f.setAccessible(true);
                    Object value = f.getType().isPrimitive() ? null : f.get(o);
                    if (value != null) {
                        open.add(value);
                    }
                }
            }
        }
        need(seen.size() <= 100, "an object takes " + seen.size() + " objects and arrays");
        need(elements <= 6500, "an object takes " + elements + " fields and elements");
    }

    private static void roomOfCalls() {
        com.sun.management.ThreadMXBean threads = (com.sun.management.ThreadMXBean) ManagementFactory.getThreadMXBean();
        if (!threads.isThreadAllocatedMemorySupported()) {
            return;
        }
        long least = Long.MAX_VALUE;
        // the machine takes room for itself in the first rounds, and now and then
        for (int round = 0; round < 5; round++) {
            WornThings x = new WornThings();
            byte[] text = DEAR.getBytes(java.nio.charset.StandardCharsets.ISO_8859_1);
            long before = threads.getCurrentThreadAllocatedBytes();
            everyCall(x, text);
            least = Math.min(least, threads.getCurrentThreadAllocatedBytes() - before);
        }
        need(least < 1000, "the calls take " + least + " bytes");
    }

    private static int number(byte[] text, int at) {
        int n = 0;
        for (int i = at; i < at + 4; i++) {
            n = n << 8 | (i < text.length ? text[i] : ' ');
        }
        return n;
    }

    private static void everyCall(WornThings x, byte[] text) {
        for (int i = 0; i < text.length; i += 20) {
            x.feed(number(text, i), number(text, i + 4), number(text, i + 8), number(text, i + 12), number(text, i + 16));
        }
        if (x.city(text.length) != 0) {
            need(false, "the dear city has a fault at " + x.fault());
            return;
        }
        for (int i = 0; i < 9; i++) {
            x.note(i, 30 - i, i == 0);
        }
        x.image();
        x.days(1);
        x.steal(5, 0);
        x.back(1);
        x.walk(0, 0, 3);
        x.dye(2, 9);
        ask(x);
        x.undo();
        x.restore();
        ask(x);
        x.forget();
        ask(x);
    }

    private static void ask(WornThings x) {
        for (int what = 0; what < 14; what++) {
            x.count(what);
        }
        for (int what = 0; what < 9; what++) {
            x.person(1, what);
        }
        for (int what = 0; what < 6; what++) {
            x.thing(2, what);
        }
        for (int what = 0; what < 2; what++) {
            x.later(2, 100, what);
            x.when(3, what);
            x.where(1, 100, what);
            x.toStand(3, what);
            x.toSteal(3, what);
            x.vain(what);
            x.ask(what);
            x.game(2, 3, what);
            x.walks(100, what);
            x.then(3, 100, what);
            x.all(100, what);
            x.years(7, 100, what);
        }
        x.watch(100);
        x.least(-1);
        x.least(3);
        x.whose(1);
        x.fog(3, 5, 5);
        x.meet(0, 5);
        x.faced(3);
        x.shamed(2, 99);
        x.has(2, 100);
        x.takes(1, 0);
        x.quiet(100);
    }

    /** Methods of one name are held for one here, so that what is found is at least as deep as what is so. */
    private static void depthOfCalls(String source) {
        Map<String, Set<String>> calls = new TreeMap<>();
        Matcher head = Pattern.compile("(?m)^( +)(?:public |private |static )*[A-Za-z\\[\\]]+ ([a-zA-Z]+)\\([^)]*\\)(?: throws [^{]*)? \\{$").matcher(source);
        Map<String, StringBuilder> bodies = new TreeMap<>();
        while (head.find()) {
            int end = source.indexOf("\n" + head.group(1) + "}", head.end());
            if (!head.group(0).contains(" new ") && !head.group(0).contains(" else ")) {
                bodies.computeIfAbsent(head.group(2), n -> new StringBuilder()).append(source, head.end(), end);
            }
        }
        need(bodies.size() > 100 && bodies.containsKey("years") && bodies.containsKey("two"), "the methods were found");
        for (Map.Entry<String, StringBuilder> e : bodies.entrySet()) {
            Set<String> called = new TreeSet<>();
            Matcher call = Pattern.compile("\\b([a-zA-Z]+)\\(").matcher(e.getValue());
            while (call.find()) {
                if (bodies.containsKey(call.group(1))) {
                    called.add(call.group(1));
                }
            }
            calls.put(e.getKey(), called);
        }
        for (String name : calls.keySet()) {
            int deep = depth(calls, name, 1);
            need(deep <= MOST_DEEP, name + " goes " + deep + " calls deep");
        }
    }

    private static int depth(Map<String, Set<String>> calls, String name, int at) {
        int deepest = at;
        if (at <= MOST_DEEP) {
            for (String next : calls.get(name)) {
                deepest = Math.max(deepest, depth(calls, next, at + 1));
            }
        }
        return deepest;
    }
}
