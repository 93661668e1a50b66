import java.io.IOException;
import java.lang.reflect.Constructor;
import java.lang.reflect.Field;
import java.lang.reflect.Method;
import java.lang.reflect.Modifier;
import java.nio.file.Files;
import java.nio.file.Path;
import java.util.ArrayList;
import java.util.Arrays;
import java.util.List;
import java.util.Set;
import java.util.TreeSet;
import java.util.regex.Pattern;

/** Those rules of LANGUAGE.md, and the face of the document, that can be seen from outside. Runs in the project's folder. */
public final class LanguageTest {
    private static final String NSE = " throws NoSuchElementException";
    private static final String IAE = " throws IllegalArgumentException";
    private static final String BOTH = " throws NoSuchElementException IllegalArgumentException";
    private static final String[] FACE = {
        "int feed(int,int,int,int,int)", "int city(int)" + IAE, "int fault()", "int count(int)" + NSE,
        "int person(int,int)" + NSE, "int thing(int,int)" + NSE, "int days(int)", "int steal(int,int)" + NSE,
        "int back(int)" + NSE, "int walk(int,int,int)" + NSE, "int dye(int,int)" + NSE, "int undo()",
        "int then(int,int,int)" + BOTH, "int later(int,int,int)" + BOTH, "int when(int,int)" + NSE,
        "int all(int,int)" + BOTH, "int where(int,int,int)" + BOTH, "int toStand(int,int)" + NSE,
        "int toSteal(int,int)" + NSE, "int watch(int)" + IAE, "int least(int)" + NSE, "int whose(int)" + NSE,
        "int note(int,int,boolean)" + NSE, "void forget()", "int vain(int)" + NSE, "int ask(int)" + NSE,
        "int fog(int,int,int)" + BOTH, "int game(int,int,int)" + BOTH, "int years(int,int,int)" + BOTH,
        "int meet(int,int)" + NSE, "int faced(int)" + NSE, "int walks(int,int)" + BOTH, "int shamed(int,int)" + BOTH,
        "int has(int,int)" + BOTH, "int takes(int,int)" + NSE, "int quiet(int)" + IAE, "void image()", "boolean restore()"};
    private static int wrong;

    public static void main(String[] args) throws IOException {
        face();
        classes();
        source(Files.readString(Path.of("src/main/java/WornThings.java")));
        System.out.println("LanguageTest: " + wrong + " wrong");
        if (wrong > 0) {
            System.exit(1);
        }
    }

    private static void need(boolean holds, String what) {
        if (!holds) {
            wrong++;
            System.out.println("LanguageTest: " + what);
        }
    }

    private static void face() {
        Class<?> type = WornThings.class;
        Set<String> want = new TreeSet<>(Arrays.asList(FACE));
        Set<String> got = new TreeSet<>();
        for (Method m : type.getDeclaredMethods()) {
            if (!Modifier.isPrivate(m.getModifiers())) {
                need(Modifier.isPublic(m.getModifiers()) && !Modifier.isStatic(m.getModifiers()), m + " is neither private nor of the face");
                got.add(told(m));
            }
        }
        need(got.equals(want), "the face is " + got + ", due is " + want);
        for (Field f : type.getDeclaredFields()) {
            boolean isNone = f.getName().equals("NONE") && Modifier.isPublic(f.getModifiers());
            need(isNone || Modifier.isPrivate(f.getModifiers()), f + " is visible");
        }
        Constructor<?>[] made = type.getDeclaredConstructors();
        need(made.length == 1 && made[0].getParameterCount() == 0 && Modifier.isPublic(made[0].getModifiers()), "the constructor");
        need(Modifier.isPublic(type.getModifiers()) && Modifier.isFinal(type.getModifiers()), "the class is public and final");
    }

    private static String told(Method m) {
        StringBuilder s = new StringBuilder(m.getReturnType() + " " + m.getName() + "(");
        for (Class<?> p : m.getParameterTypes()) {
            s.append(s.charAt(s.length() - 1) == '(' ? "" : ",").append(p);
        }
        s.append(")");
        for (int i = 0; i < m.getExceptionTypes().length; i++) {
            s.append(i == 0 ? " throws " : " ").append(m.getExceptionTypes()[i].getSimpleName());
        }
        return s.toString();
    }

    private static void classes() {
        Set<String> names = new TreeSet<>();
        for (String s : FACE) {
            names.add(s.substring(s.indexOf(' ') + 1, s.indexOf('(')));
        }
        List<Class<?>> all = new ArrayList<>(List.of(WornThings.class.getDeclaredClasses()));
        need(all.size() < 12, "too many classes");
        for (Class<?> c : all) {
            need(Modifier.isStatic(c.getModifiers()), c + " is not static");
            need(!Modifier.isPublic(c.getModifiers()) && !Modifier.isProtected(c.getModifiers()), c + " is visible");
        }
        all.add(WornThings.class);
        for (Class<?> c : all) {
            int fields = 0;
            for (Field f : c.getDeclaredFields()) {
                if (!Modifier.isStatic(f.getModifiers())) {
                    fields++;
                }
                need(!Modifier.isStatic(f.getModifiers()) || Modifier.isFinal(f.getModifiers()), f + " is not final");
            }
            need(fields <= 20, c + " has " + fields + " fields");
            for (Method m : c.getDeclaredMethods()) {
                need(m.getParameterCount() <= 7, m + " has too many parameters");
                need(Modifier.isPublic(m.getModifiers()) || !names.contains(m.getName()), m + " bears a public name");
            }
        }
    }

    private static void source(String source) {
        for (int i = 0; i < source.length(); i++) {
            need(source.charAt(i) < 127, "a sign above 126 at " + i);
        }
        String bare = source.replaceAll("(?s)/\\*.*?\\*/", "").replaceAll("//[^\n]*", "");
        String[] never = {"\\bcatch\\b", "\\btry\\b", "\\bfinally\\b", "->", "::", "\\bsynchronized\\b", "\\bassert\\b",
            "\\bdouble\\b", "\\bfloat\\b", "\\bpackage\\b", "\\bSystem\\.(?!arraycopy)", "\\bvar\\b", "Exact\\b", "\\bstatic \\{",
            "\\bprotected\\b", "\\bObject\\b", "\\bRandom\\b", "\\bThread\\b", "\\bvolatile\\b", "\\btransient\\b"};
        for (String s : never) {
            need(!Pattern.compile(s).matcher(bare).find(), s + " stands in the source");
        }
        for (String line : bare.split("\n")) {
            need(!line.startsWith("import") || line.equals("import java.util.Arrays;")
                || line.equals("import java.util.NoSuchElementException;"), line);
        }
        need(bare.indexOf('"') < 0 || !Pattern.compile("\"\\s*\\+|\\+\\s*\"").matcher(bare).find(), "texts are joined by +");
        methodsAreShort(source);
    }

    private static void methodsAreShort(String source) {
        String[] lines = source.split("\n");
        for (int i = 0; i < lines.length; i++) {
            String indent = lines[i].replaceAll("\\S.*", "");
            if (lines[i].endsWith(") {") || lines[i].contains(") throws ")) {
                int end = i;
                while (end < lines.length && !lines[end].equals(indent + "}")) {
                    end++;
                }
                boolean method = lines[i].matches("\\s+(public |private |static )*[A-Za-z\\[\\]]+ [a-zA-Z]+\\(.*");
                need(!method || end - i < 60, "a method of " + (end - i + 1) + " lines: " + lines[i].trim());
            }
        }
    }
}
