import java.util.Random;

/** Many random texts, sound and spoilt, read by the class and by PlainModel: the same faults at the same places. */
public final class RandomTextsTest {
    public static void main(String[] args) {
        int many = args.length > 0 ? Integer.parseInt(args[0]) : 20000;
        int wrong = 0;
        int[] seen = new int[6];
        for (int seed = 0; seed < many && wrong < 10; seed++) {
            String text = text(new Random(seed));
            WornThings x = new WornThings();
            PlainModel y = new PlainModel();
            for (int at = 0; at < text.length(); at += 20) {
                int[] n = new int[5];
                for (int i = 0; i < 20; i++) {
                    n[i / 4] = n[i / 4] << 8 | (at + i < text.length() ? text.charAt(at + i) & 255 : 0);
                }
                x.feed(n[0], n[1], n[2], n[3], n[4]);
                y.feed(n[0], n[1], n[2], n[3], n[4]);
            }
            int due = y.city(text.length());
            int got = x.city(text.length());
            seen[due]++;
            if (got != due || x.fault() != y.fault()) {
                wrong++;
                System.out.println("seed " + seed + ": " + got + " at " + x.fault() + ", due is " + due + " at " + y.fault()
                    + ", of\n" + text);
            }
        }
        System.out.print("RandomTextsTest: " + many + " texts, " + wrong + " wrong; faults 0 to 5:");
        for (int i = 0; i < 6; i++) {
            System.out.print(" " + seen[i]);
        }
        System.out.println();
        if (wrong > 0) {
            System.exit(1);
        }
    }

    private static String text(Random random) {
        RandomTexts texts = new RandomTexts(random);
        String text = random.nextInt(3) == 0 ? texts.soup() : texts.city();
        if (random.nextInt(4) > 0) {
            text = texts.spoil(text);
        }
        return text.length() > 700 ? text.substring(0, 700) : text;
    }
}
