import java.util.NoSuchElementException;
import java.util.Random;

/** Runs of random calls, by fixed seeds, on the class and on PlainModel: each answer must be the same. */
public final class RandomRunsTest {
    private static final int[] STRANGE = {Integer.MIN_VALUE, -102, -3, -2, -1, 0, 1, 2, 3, 4, 5, 6, 7, 8, 9, 10, 11, 13, 14,
        20, 21, 30, 31, 32, 99, 100, 101, 102, 9999, 65536, 1 << 30, Integer.MAX_VALUE};
    private static int wrong;

    private interface Call {
        long answer();
    }

    public static void main(String[] args) {
        int runs = args.length > 0 ? Integer.parseInt(args[0]) : 300;
        int from = args.length > 1 ? Integer.parseInt(args[1]) : 0;
        long calls = 0;
        for (int seed = from; seed < from + runs && wrong < 10; seed++) {
            calls += run(seed);
        }
        System.out.println("RandomRunsTest: " + runs + " runs, " + calls + " calls, " + wrong + " wrong");
        if (wrong > 0) {
            System.exit(1);
        }
    }

    private static int run(int seed) {
        Random random = new Random(seed);
        WornThings x = new WornThings();
        PlainModel y = new PlainModel();
        StringBuilder told = new StringBuilder();
        int calls = 0;
        if (random.nextInt(20) > 0) {
            calls += tell(random, x, y, told, seed, random.nextInt(4) == 0);
        }
        int many = 20 + random.nextInt(180);
        for (int i = 0; i < many && calls < 500; i++) {
            if (random.nextInt(60) == 0) {
                calls += tell(random, x, y, told, seed, random.nextInt(2) == 0);
            }
            calls++;
            if (!one(random, x, y, told, seed)) {
                return calls;
            }
        }
        return calls;
    }

    private static int tell(Random random, WornThings x, PlainModel y, StringBuilder told, int seed, boolean spoil) {
        String text = new RandomTexts(random).city();
        if (spoil) {
            text = new RandomTexts(random).spoil(text);
        }
        int calls = 0;
        String rest = text;
        while (!rest.isEmpty() && x.count(10) <= 680) {
            String padded = (rest + "                    ").substring(0, 20);
            rest = rest.length() <= 20 ? "" : rest.substring(20);
            int[] n = new int[5];
            for (int i = 0; i < 20; i++) {
                n[i / 4] = n[i / 4] << 8 | padded.charAt(i) & 255;
            }
            calls++;
            same(seed, told, "feed", () -> x.feed(n[0], n[1], n[2], n[3], n[4]), () -> y.feed(n[0], n[1], n[2], n[3], n[4]));
        }
        int length = Math.min(text.length(), x.count(10));
        same(seed, told, "city(" + text + ")", () -> x.city(length), () -> y.city(length));
        same(seed, told, "fault()", x::fault, y::fault);
        return calls + 2;
    }

    private static boolean one(Random random, WornThings x, PlainModel y, StringBuilder told, int seed) {
        int people = x.count(1);
        int things = x.count(2);
        int p = strange(random, random.nextInt(Math.max(1, people)));
        int q = strange(random, random.nextInt(Math.max(1, people)));
        int t = strange(random, random.nextInt(Math.max(1, things)));
        int d = strange(random, random.nextInt(random.nextBoolean() ? 15 : 101));
        int w = strange(random, random.nextInt(3));
        int w2 = strange(random, random.nextInt(2));
        int n = random.nextInt();
        boolean b = random.nextBoolean();
        String a = p + " " + q + " " + t + " " + d + " " + w + " " + w2 + " " + n + " " + b;
        switch (random.nextInt(46)) {
            case 0: return same(seed, told, "count " + (n & 15), () -> x.count(n & 15), () -> y.count(n & 15));
            case 1: return same(seed, told, "person " + p + " " + (n & 15), () -> x.person(p, n & 15), () -> y.person(p, n & 15));
            case 2: return same(seed, told, "thing " + t + " " + (n & 7), () -> x.thing(t, n & 7), () -> y.thing(t, n & 7));
            case 3: return same(seed, told, "days " + d % 25, () -> x.days(d > 25 && d < 100 ? d % 25 : d), () -> y.days(d > 25 && d < 100 ? d % 25 : d));
            case 4: case 5: case 6: case 7: return same(seed, told, "steal " + a, () -> x.steal(p, t), () -> y.steal(p, t));
            case 8: return same(seed, told, "back " + a, () -> x.back(t), () -> y.back(t));
            case 9: return same(seed, told, "walk " + a, () -> x.walk(p, (n & 3) - (n >> 9 & 1 & n >> 8), (n >>> 4) % 4), () -> y.walk(p, (n & 3) - (n >> 9 & 1 & n >> 8), (n >>> 4) % 4));
            case 10: return same(seed, told, "dye " + a, () -> x.dye(t, (n >>> 4) % 11), () -> y.dye(t, (n >>> 4) % 11));
            case 11: case 12: return same(seed, told, "undo", x::undo, y::undo);
            case 13: case 14: return same(seed, told, "then " + a, () -> x.then(t, d, w), () -> y.then(t, d, w));
            case 15: return same(seed, told, "later " + a, () -> x.later(p, d, w2), () -> y.later(p, d, w2));
            case 16: case 17: return same(seed, told, "when " + a, () -> x.when(t, w2), () -> y.when(t, w2));
            case 18: return same(seed, told, "all " + a + " " + (n & 3), () -> x.all(d, n & 3), () -> y.all(d, n & 3));
            case 19: return same(seed, told, "where " + a, () -> x.where(p, d, w2), () -> y.where(p, d, w2));
            case 20: return same(seed, told, "toStand " + a, () -> x.toStand(t, w2), () -> y.toStand(t, w2));
            case 21: return same(seed, told, "toSteal " + a, () -> x.toSteal(p, w2), () -> y.toSteal(p, w2));
            case 22: return same(seed, told, "watch " + a, () -> x.watch(d), () -> y.watch(d));
            case 23: case 24: return same(seed, told, "least " + a, () -> x.least(t), () -> y.least(t));
            case 25: return same(seed, told, "least -1", () -> x.least(-1), () -> y.least(-1));
            case 26: return same(seed, told, "whose " + a, () -> x.whose(p), () -> y.whose(p));
            case 27: return same(seed, told, "note " + a, () -> x.note(t, d > 32 && d < 100 ? d % 32 : d, b), () -> y.note(t, d > 32 && d < 100 ? d % 32 : d, b));
            case 28: return same(seed, told, "forget", () -> { x.forget(); return 0; }, () -> { y.forget(); return 0; });
            case 29: return same(seed, told, "vain " + a, () -> x.vain(w), () -> y.vain(w));
            case 30: return same(seed, told, "ask " + a, () -> x.ask(w2), () -> y.ask(w2));
            case 31: case 32: return same(seed, told, "fog " + a, () -> x.fog(t, d % 6, (n >>> 4) % 12), () -> y.fog(t, d % 6, (n >>> 4) % 12));
            case 33: case 34: return same(seed, told, "game " + a, () -> x.game(p, q, w2), () -> y.game(p, q, w2));
            case 35: return same(seed, told, "years " + a, () -> x.years(n, d, w), () -> y.years(n, d, w));
            case 36: return same(seed, told, "meet " + a, () -> x.meet(p, q), () -> y.meet(p, q));
            case 37: return same(seed, told, "faced " + a, () -> x.faced(t), () -> y.faced(t));
            case 38: return same(seed, told, "walks " + a, () -> x.walks(d, w2), () -> y.walks(d, w2));
            case 39: return same(seed, told, "shamed " + a, () -> x.shamed(p, d), () -> y.shamed(p, d));
            case 40: return same(seed, told, "has " + a, () -> x.has(p, d), () -> y.has(p, d));
            case 41: return same(seed, told, "takes " + a, () -> x.takes(p, q), () -> y.takes(p, q));
            case 42: return same(seed, told, "quiet " + a, () -> x.quiet(d), () -> y.quiet(d));
            case 43: return same(seed, told, "image", () -> { x.image(); return 0; }, () -> { y.image(); return 0; });
            case 44: return same(seed, told, "restore", () -> x.restore() ? 1 : 0, () -> y.restore() ? 1 : 0);
            default: return same(seed, told, "all things", () -> all(x), () -> all(y));
        }
    }

    private static int strange(Random random, int usual) {
        return random.nextInt(30) == 0 ? STRANGE[random.nextInt(STRANGE.length)] : usual;
    }

    private static long all(WornThings x) {
        long sum = 0;
        for (int i = 0; i < 14; i++) {
            sum = sum * 31 + x.count(i);
        }
        return sum;
    }

    private static long all(PlainModel x) {
        long sum = 0;
        for (int i = 0; i < 14; i++) {
            sum = sum * 31 + x.count(i);
        }
        return sum;
    }

    private static boolean same(int seed, StringBuilder told, String name, Call left, Call right) {
        String a = text(left);
        String b = text(right);
        told.append(name).append(" -> ").append(b).append('\n');
        if (a.equals(b)) {
            return true;
        }
        wrong++;
        System.out.println("seed " + seed + ": " + name + " answered " + a + ", due is " + b + ", behind\n" + told);
        return false;
    }

    private static String text(Call call) {
        try {
            return Long.toString(call.answer());
        } catch (NoSuchElementException | IllegalArgumentException e) {
            return e.getClass().getName();
        }
    }
}
