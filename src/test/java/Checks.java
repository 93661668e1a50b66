import java.util.ArrayList;
import java.util.List;
import java.util.NoSuchElementException;
import java.util.function.ToLongFunction;

/** What the tests of single calls share: telling texts, holding answers against what is due, and comparing objects. */
abstract class Checks {
    static final int LEAST_INT = Integer.MIN_VALUE;
    static final int GREATEST_INT = Integer.MAX_VALUE;

    /** Person 0 walks 0 1, person 1 stays at 0, the blind person 2 walks 1 0; things 0 and 2 are worn. */
    static final String SMALL = "places 3;person 1 0 1;person 3 0;blind 2 1 0;"
        + "thing 5 4 1 by 0;thing 10 6 0;thing 3 2 2 by 1;term 3;";

    private static int wrong;
    private static int checks;
    private static int sentences;
    private static String words = "";

    interface Call {
        long answer();
    }

    /** One sentence of the document, in its words, with the test that is its own. */
    static void sentence(String said, Runnable test) {
        words = " [" + said + "]";
        int before = checks;
        test.run();
        due("a sentence has checks", checks > before ? 1 : 0, 1);
        sentences++;
        words = "";
    }

    static void finish(String name) {
        System.out.println(name + ": " + (sentences > 0 ? sentences + " sentences, " : "") + checks + " checks, " + wrong + " wrong");
        if (wrong > 0 || checks == 0) {
            System.exit(1);
        }
    }

    static void due(String what, long got, long want) {
        checks++;
        if (got != want) {
            wrong++;
            System.out.println(what + " answered " + got + ", due is " + want + words);
        }
    }

    static void none(String what, Call call) {
        due(what + " throws NoSuchElementException", thrown(call), 1);
    }

    static void illegal(String what, Call call) {
        due(what + " throws IllegalArgumentException", thrown(call), 2);
    }

    static int thrown(Call call) {
        try {
            call.answer();
            return 0;
        } catch (NoSuchElementException e) {
            return e.getClass() == NoSuchElementException.class ? 1 : 3;
        } catch (IllegalArgumentException e) {
            return e.getClass() == IllegalArgumentException.class ? 2 : 3;
        }
    }

    static int number(String s, int at) {
        int n = 0;
        for (int i = at; i < at + 4; i++) {
            n = n << 8 | (i < s.length() ? s.charAt(i) & 255 : ' ');
        }
        return n;
    }

    /** Feeds the text, filled up with blanks to a multiple of twenty bytes. */
    static void put(WornThings x, String text) {
        for (int i = 0; i < text.length(); i += 20) {
            x.feed(number(text, i), number(text, i + 4), number(text, i + 8), number(text, i + 12), number(text, i + 16));
        }
    }

    static int tell(WornThings x, String text) {
        put(x, text);
        return x.city(text.length());
    }

    static WornThings of(String text) {
        WornThings x = new WornThings();
        due("city of " + text, tell(x, text), 0);
        due("fault of " + text, x.fault(), -1);
        return x;
    }

    static void fault(String text, int code, int place) {
        WornThings x = new WornThings();
        due("city of " + text, tell(x, text), code);
        due("fault of " + text, x.fault(), place);
        due("texts refused of " + text, x.count(11), 1);
    }

    static String times(String s, int n) {
        return s.repeat(n);
    }

    /** What a rule gives, seen as the shame of the one thing that is worn: ODD 2, WEIGHT 5, VANITY 3, two who look. */
    static void gives(String rule, int want) {
        WornThings x = of("person 3 0;person 0 0;person 0 0;thing 5 2 1 by 0;shames " + rule + ";");
        due("shames " + rule, x.thing(0, 5), want);
    }

    /** All that acts, notes and days change, one answer a line; WALKS as the places of the six days to come. */
    private static List<String> changing(WornThings x) {
        List<String> told = new ArrayList<>();
        for (int what = 4; what <= 9; what++) {
            told.add("count " + what + " = " + x.count(what));
        }
        for (int p = 0; p < x.count(1); p++) {
            told.add("person " + p + " 2 = " + x.person(p, 2));
            for (int k = 1; k <= 6; k++) {
                told.add("where " + p + " " + k + " = " + x.where(p, k, 0));
            }
        }
        for (int t = 0; t < x.count(2); t++) {
            for (int what = 1; what <= 4; what++) {
                told.add("thing " + t + " " + what + " = " + x.thing(t, what));
            }
        }
        return told;
    }

    private static List<String> staying(WornThings x) {
        List<String> told = new ArrayList<>();
        for (int what : new int[] {0, 1, 2, 3, 10, 11, 12, 13}) {
            told.add("count " + what + " = " + x.count(what));
        }
        told.add("fault = " + x.fault());
        for (int p = 0; p < x.count(1); p++) {
            for (int what : new int[] {0, 1, 3, 4, 5, 6, 7, 8}) {
                told.add("person " + p + " " + what + " = " + x.person(p, what));
            }
        }
        for (int t = 0; t < x.count(2); t++) {
            told.add("thing " + t + " 0 = " + x.thing(t, 0));
            told.add("thing " + t + " 5 = " + x.thing(t, 5));
        }
        for (int what = 0; what <= 2; what++) {
            told.add("vain " + what + " = " + x.vain(what));
        }
        return told;
    }

    /** Both objects answer alike, also behind each UNDO and as the image; but for the lines that are named. */
    static void alike(String what, WornThings x, WornThings y, String... but) {
        compare(what, staying(x), staying(y), but);
        compare(what, changing(x), changing(y), but);
        undoAll(what, x, y);
        due(what + ", restore", x.restore() ? 1 : 0, y.restore() ? 1 : 0);
        compare(what + ", restored", changing(x), changing(y), but);
        undoAll(what + ", restored", x, y);
    }

    private static void undoAll(String what, WornThings x, WornThings y) {
        int left = 0;
        for (int i = 0; i <= 40 && left != -1; i++) {
            left = y.undo();
            due(what + ", undo", x.undo(), left);
            compare(what + ", undone to " + left, changing(x), changing(y));
        }
    }

    private static void compare(String what, List<String> got, List<String> want, String... but) {
        due(what + ", how many answers", got.size(), want.size());
        for (int i = 0; i < Math.min(got.size(), want.size()); i++) {
            boolean left = false;
            for (String b : but) {
                left |= got.get(i).startsWith(b + " =");
            }
            checks++;
            if (!left && !got.get(i).equals(want.get(i))) {
                wrong++;
                System.out.println(what + ": " + got.get(i) + ", due is " + want.get(i) + words);
            }
        }
    }

    /** An object with acts, notes, an image, a fault and each STATUS above 0, on which nothing should go unnoticed. */
    static WornThings busy() {
        WornThings x = new WornThings();
        tell(x, SMALL);
        x.days(2);
        x.note(0, 3, true);
        x.image();
        x.walk(0, 0, 2);
        x.note(1, 0, false);
        x.dye(1, 3);
        x.steal(2, 1);
        tell(x, "term 5; x");
        x.days(0);
        x.note(0, 31, true);
        x.feed(1, 2, 3, 4, 5);
        return x;
    }

    /** The call answers so on a busy object, counts to the STATUS, and changes nothing else. */
    static void refused(String what, ToLongFunction<WornThings> call, long answer, int status) {
        WornThings x = busy();
        WornThings y = busy();
        due(what, call.applyAsLong(x), answer);
        due(what + " counts to STATUS " + status, x.count(11 + status), y.count(11 + status) + 1);
        alike(what, x, y, "count " + (11 + status));
    }

    /** The call throws on a busy object (1 NoSuchElementException, 2 IllegalArgumentException, 0 nothing) and changes nothing. */
    static void changesNothing(String what, ToLongFunction<WornThings> call, int thrown) {
        WornThings x = busy();
        due(what + " throws (1 NoSuchElementException, 2 IllegalArgumentException)", thrown(() -> call.applyAsLong(x)), thrown);
        alike(what, x, busy());
    }
}
