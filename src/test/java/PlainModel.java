import java.nio.charset.StandardCharsets;
import java.util.ArrayDeque;
import java.util.ArrayList;
import java.util.Arrays;
import java.util.HashSet;
import java.util.List;
import java.util.NoSuchElementException;
import java.util.Set;

/**
 * The document once more, written for plainness with the whole Java library, so that random runs
 * of the class can be held against it. It shares no code and no ways with the class.
 */
final class PlainModel {
    static final class Fault extends RuntimeException {
        final int code;
        final int place;

        Fault(int code, int place) {
            this.code = code;
            this.place = place;
        }
    }

    interface Values {
        int get(String name);
    }

    interface Expr {
        int eval(Values v);
    }

    static final class Person {
        int vanity;
        boolean blind;
        List<Integer> walk = new ArrayList<>();
        int shame;

        Person copy() {
            Person p = new Person();
            p.vanity = vanity;
            p.blind = blind;
            p.walk = new ArrayList<>(walk);
            p.shame = shame;
            return p;
        }
    }

    static final class Thing {
        int weight;
        int odd;
        int owner;
        int wearer = -1;
        int days;

        Thing copy() {
            Thing t = new Thing();
            t.weight = weight;
            t.odd = odd;
            t.owner = owner;
            t.wearer = wearer;
            t.days = days;
            return t;
        }
    }

    static final class World {
        int places = 3;
        int term = 10;
        int day;
        int changed;
        Expr shames;
        Expr returns;
        List<Person> people = new ArrayList<>();
        List<Thing> things = new ArrayList<>();

        World copy() {
            World w = new World();
            w.places = places;
            w.term = term;
            w.day = day;
            w.shames = shames;
            w.returns = returns;
            for (Person p : people) {
                w.people.add(p.copy());
            }
            for (Thing t : things) {
                w.things.add(t.copy());
            }
            return w;
        }

        int place(int p, int d) {
            List<Integer> walk = people.get(p).walk;
            return walk.get(d % walk.size());
        }

        List<Integer> look(int p, int d) {
            List<Integer> all = new ArrayList<>();
            for (int q = 0; q < people.size(); q++) {
                if (q != p && !people.get(q).blind && place(q, d) == place(p, d)) {
                    all.add(q);
                }
            }
            return all;
        }

        List<Integer> wears(int p) {
            List<Integer> all = new ArrayList<>();
            for (int t = 0; t < things.size(); t++) {
                if (things.get(t).wearer == p) {
                    all.add(t);
                }
            }
            return all;
        }

        int given(Thing t, List<Integer> lookers) {
            Person p = people.get(t.wearer);
            int g;
            if (shames == null) {
                g = t.odd + lookers.size() - p.vanity;
            } else {
                g = shames.eval(name -> switch (name) {
                    case "odd" -> t.odd;
                    case "weight" -> t.weight;
                    case "count" -> t.days;
                    case "eyes" -> lookers.size();
                    case "vanity" -> p.vanity;
                    case "owner" -> lookers.contains(t.owner) ? 1 : 0;
                    case "day" -> day;
                    default -> throw new AssertionError(name);
                });
            }
            return g < 0 ? 0 : g > 20 ? 20 : g;
        }

        void oneDay(boolean fog) {
            for (Thing t : things) {
                if (t.wearer < 0) {
                    continue;
                }
                List<Integer> lookers = fog ? List.of() : look(t.wearer, day);
                Person p = people.get(t.wearer);
                p.shame += given(t, lookers);
                if (p.shame > 99) {
                    p.shame = 99;
                }
                if (!lookers.isEmpty()) {
                    t.days++;
                    if (t.days == term) {
                        t.owner = t.wearer;
                        t.wearer = -1;
                        t.days = 0;
                        changed++;
                    }
                }
            }
            for (int i = 0; i < people.size(); i++) {
                Person p = people.get(i);
                List<Integer> worn = wears(i);
                if (worn.isEmpty()) {
                    continue;
                }
                boolean gives = returns == null ? p.shame >= 40 : returns.eval(name -> switch (name) {
                    case "shame" -> p.shame;
                    case "vanity" -> p.vanity;
                    case "many" -> worn.size();
                    case "day" -> day;
                    default -> throw new AssertionError(name);
                }) > 0;
                if (gives) {
                    for (int t : worn) {
                        off(t);
                    }
                    p.shame = 0;
                }
            }
            for (int i = 0; i < people.size(); i++) {
                if (wears(i).isEmpty()) {
                    people.get(i).shame -= 2;
                    if (people.get(i).shame < 0) {
                        people.get(i).shame = 0;
                    }
                }
            }
            day++;
        }

        void off(int t) {
            things.get(t).wearer = -1;
            things.get(t).days = 0;
        }

        boolean mayTake(int p, int t) {
            return things.get(t).owner != p && things.get(t).wearer != p;
        }

        void take(int p, int t) {
            things.get(t).wearer = p;
            things.get(t).days = 0;
        }

        World after(int n) {
            World w = copy();
            for (int i = 0; i < n; i++) {
                w.oneDay(false);
            }
            return w;
        }

        int owned(int p) {
            int sum = 0;
            for (Thing t : things) {
                if (t.owner == p) {
                    sum += t.weight;
                }
            }
            return sum;
        }
    }

    record Token(String text, int at) {
        boolean isWord() {
            return !text.isEmpty() && text.charAt(0) >= 'a' && text.charAt(0) <= 'z';
        }

        boolean isNumber() {
            return !text.isEmpty() && text.charAt(0) >= '0' && text.charAt(0) <= '9';
        }
    }

    /** A recursive descent along the grammar, as the document writes it. */
    static final class Parser {
        final List<Token> tokens = new ArrayList<>();
        int pos;
        final World w = new World();
        final Set<String> told = new HashSet<>();
        Set<String> values;

        Parser(String s) {
            int i = 0;
            while (i < s.length()) {
                char c = s.charAt(i);
                int j = i + 1;
                if (c == 32 || c == 10) {
                    i++;
                    continue;
                }
                if (c >= 'a' && c <= 'z') {
                    while (j < s.length() && s.charAt(j) >= 'a' && s.charAt(j) <= 'z') {
                        j++;
                    }
                } else if (c >= '0' && c <= '9') {
                    while (j < s.length() && s.charAt(j) >= '0' && s.charAt(j) <= '9') {
                        j++;
                    }
                }
                tokens.add(new Token(s.substring(i, j), i));
                i = j;
            }
            tokens.add(new Token("", s.length()));
        }

        Token peek() {
            return tokens.get(pos);
        }

        Fault bad(int code) {
            return new Fault(code, peek().at());
        }

        boolean sees(String s) {
            return peek().text().equals(s);
        }

        void expect(String s) {
            if (!sees(s)) {
                throw bad(1);
            }
            pos++;
        }

        int rawNumber() {
            if (!peek().isNumber()) {
                throw bad(1);
            }
            if (peek().text().length() > 4) {
                throw bad(2);
            }
            return Integer.parseInt(peek().text());
        }

        int ranged(int from, int to) {
            int n = rawNumber();
            if (n < from || n > to) {
                throw bad(2);
            }
            pos++;
            return n;
        }

        int who() {
            int n = rawNumber();
            if (n >= w.people.size()) {
                throw bad(3);
            }
            return n;
        }

        World city() {
            while (!sees("")) {
                line();
            }
            return w;
        }

        void line() {
            switch (peek().text()) {
                case "places" -> {
                    if (!w.people.isEmpty()) {
                        throw bad(4);
                    }
                    once("places");
                    w.places = ranged(2, 6);
                }
                case "person", "blind" -> {
                    if (w.people.size() == 8) {
                        throw bad(2);
                    }
                    Person p = new Person();
                    p.blind = sees("blind");
                    pos++;
                    p.vanity = ranged(0, 9);
                    do {
                        int n = rawNumber();
                        if (p.walk.size() == 6) {
                            throw bad(2);
                        }
                        if (n >= w.places) {
                            throw bad(3);
                        }
                        p.walk.add(n);
                        pos++;
                    } while (peek().isNumber());
                    w.people.add(p);
                }
                case "thing" -> {
                    if (w.things.size() == 10) {
                        throw bad(2);
                    }
                    pos++;
                    Thing t = new Thing();
                    t.weight = ranged(1, 30);
                    t.odd = ranged(0, 9);
                    t.owner = who();
                    pos++;
                    if (sees("by")) {
                        pos++;
                        t.wearer = who();
                        if (t.wearer == t.owner) {
                            throw bad(4);
                        }
                        pos++;
                    }
                    w.things.add(t);
                }
                case "term" -> {
                    once("term");
                    w.term = ranged(1, 99);
                }
                case "shames" -> {
                    once("shames");
                    values = Set.of("odd", "weight", "count", "eyes", "vanity", "owner", "day");
                    w.shames = expr(0);
                }
                case "returns" -> {
                    once("returns");
                    values = Set.of("shame", "vanity", "many", "day");
                    w.returns = expr(0);
                }
                default -> throw bad(1);
            }
            expect(";");
        }

        void once(String word) {
            if (!told.add(word)) {
                throw bad(5);
            }
            pos++;
        }

        Expr expr(int within) {
            if (within == 6) {
                throw bad(peek().isNumber() || peek().isWord() || sees("(") ? 2 : 1);
            }
            Expr left = and(within);
            while (sees("or")) {
                pos++;
                Expr a = left;
                Expr b = and(within);
                left = v -> a.eval(v) != 0 | b.eval(v) != 0 ? 1 : 0;
            }
            return left;
        }

        Expr and(int within) {
            Expr left = not(within, 0);
            while (sees("and")) {
                pos++;
                Expr a = left;
                Expr b = not(within, 0);
                left = v -> a.eval(v) != 0 & b.eval(v) != 0 ? 1 : 0;
            }
            return left;
        }

        Expr not(int within, int nots) {
            if (sees("not")) {
                if (nots == 6) {
                    throw bad(2);
                }
                pos++;
                Expr a = not(within, nots + 1);
                return v -> a.eval(v) == 0 ? 1 : 0;
            }
            Expr a = sum(within);
            if (sees("<") || sees("=")) {
                boolean less = sees("<");
                pos++;
                Expr b = sum(within);
                return v -> (less ? a.eval(v) < b.eval(v) : a.eval(v) == b.eval(v)) ? 1 : 0;
            }
            return a;
        }

        Expr sum(int within) {
            Expr left = product(within);
            while (sees("+") || sees("-")) {
                boolean plus = sees("+");
                pos++;
                Expr a = left;
                Expr b = product(within);
                left = v -> plus ? a.eval(v) + b.eval(v) : a.eval(v) - b.eval(v);
            }
            return left;
        }

        Expr product(int within) {
            Expr left = part(within);
            while (sees("*") || sees("/")) {
                boolean times = sees("*");
                pos++;
                Expr a = left;
                Expr b = part(within);
                left = v -> {
                    int x = a.eval(v);
                    int y = b.eval(v);
                    return times ? x * y : y == 0 ? 0 : x / y;
                };
            }
            return left;
        }

        Expr part(int within) {
            if (peek().isNumber()) {
                int n = rawNumber();
                pos++;
                return v -> n;
            }
            if (peek().isWord()) {
                String name = peek().text();
                if (!values.contains(name)) {
                    throw bad(3);
                }
                pos++;
                return v -> v.get(name);
            }
            expect("(");
            Expr e = expr(within + 1);
            expect(")");
            return e;
        }
    }

    record Note(int thing, int days, boolean worn) {
    }

    private final StringBuilder tape = new StringBuilder();
    private World w = new World();
    private int faultAt = -1;
    private final int[] status = new int[3];
    private List<World> acts = new ArrayList<>();
    private List<Note> notes = new ArrayList<>();
    private World imageWorld;
    private List<World> imageActs;
    private List<Note> imageNotes;

    private void p(int person) {
        if (person < 0 || person >= w.people.size()) {
            throw new NoSuchElementException();
        }
    }

    private void t(int thing) {
        if (thing < 0 || thing >= w.things.size()) {
            throw new NoSuchElementException();
        }
    }

    private void range(int what, int to) {
        if (what < 0 || what > to) {
            throw new NoSuchElementException();
        }
    }

    private void arg(int n, int from, int to) {
        if (n < from || n > to) {
            throw new IllegalArgumentException();
        }
    }

    private void act() {
        acts.add(w.copy());
        if (acts.size() > 40) {
            acts.remove(0);
        }
    }

    int feed(int a, int b, int c, int d, int e) {
        if (tape.length() > 680) {
            return -1;
        }
        for (int n : new int[] {a, b, c, d, e}) {
            for (int i = 3; i >= 0; i--) {
                tape.append((char) ((n >> 8 * i) & 255));
            }
        }
        return tape.length();
    }

    int city(int n) {
        if (n < 0 || n > tape.length()) {
            throw new IllegalArgumentException();
        }
        String s = tape.substring(0, n);
        tape.setLength(0);
        try {
            w = new Parser(s).city();
        } catch (Fault f) {
            faultAt = f.place;
            status[0]++;
            return f.code;
        }
        faultAt = -1;
        acts.clear();
        notes.clear();
        imageWorld = null;
        return 0;
    }

    int fault() {
        return faultAt;
    }

    private int bits(List<Integer> all) {
        int b = 0;
        for (int i : all) {
            b |= 1 << i;
        }
        return b;
    }

    private int worn(World x) {
        int b = 0;
        for (int i = 0; i < x.things.size(); i++) {
            if (x.things.get(i).wearer >= 0) {
                b |= 1 << i;
            }
        }
        return b;
    }

    private Set<Integer> reach(int person) {
        Set<Integer> seen = new HashSet<>();
        ArrayDeque<Integer> open = new ArrayDeque<>();
        open.add(person);
        while (!open.isEmpty()) {
            for (int i : w.wears(open.remove())) {
                int o = w.things.get(i).owner;
                if (seen.add(o)) {
                    open.add(o);
                }
            }
        }
        return seen;
    }

    private int shameSum(World x) {
        return x.people.stream().mapToInt(q -> q.shame).sum();
    }

    int count(int what) {
        range(what, 13);
        int rings = 0;
        for (int i = 0; i < w.people.size(); i++) {
            if (reach(i).contains(i)) {
                rings |= 1 << i;
            }
        }
        return new int[] {w.places, w.people.size(), w.things.size(), w.term, w.day, worn(w), rings, shameSum(w),
            acts.size(), notes.size(), tape.length(), status[0], status[1], status[2]}[what];
    }

    int person(int person, int what) {
        p(person);
        range(what, 8);
        Person q = w.people.get(person);
        int load = 0;
        int oddest = -1;
        for (int i : w.wears(person)) {
            load += w.things.get(i).weight;
            if (oddest < 0 || w.things.get(i).odd > w.things.get(oddest).odd) {
                oddest = i;
            }
        }
        int missed = 0;
        for (int i = 0; i < w.things.size(); i++) {
            if (w.things.get(i).owner == person && w.things.get(i).wearer >= 0) {
                missed |= 1 << i;
            }
        }
        return new int[] {q.vanity, w.place(person, w.day), q.shame, q.blind ? 1 : 0, bits(w.wears(person)), load,
            missed, w.owned(person), oddest}[what];
    }

    int thing(int thing, int what) {
        t(thing);
        range(what, 5);
        Thing x = w.things.get(thing);
        int given = x.wearer < 0 ? 0 : w.given(x, w.look(x.wearer, w.day));
        return new int[] {x.weight, x.odd, x.owner, x.wearer, x.days, given}[what];
    }

    private int no(int kind, int answer) {
        status[kind]++;
        return answer;
    }

    int days(int many) {
        if (many < 1 || many > 20 || w.day + many > 9999) {
            return no(1, -1);
        }
        act();
        w = w.after(many);
        return w.day;
    }

    int steal(int person, int thing) {
        p(person);
        t(thing);
        if (!w.mayTake(person, thing)) {
            return no(1, -2);
        }
        act();
        int was = w.things.get(thing).wearer;
        w.take(person, thing);
        return was;
    }

    int back(int thing) {
        t(thing);
        if (w.things.get(thing).wearer < 0) {
            return no(1, -1);
        }
        act();
        int was = w.things.get(thing).days;
        w.off(thing);
        return was;
    }

    int walk(int person, int i, int place) {
        p(person);
        List<Integer> walk = w.people.get(person).walk;
        if (i < 0 || i >= walk.size() || place < 0 || place >= w.places) {
            throw new NoSuchElementException();
        }
        int was = walk.get(i);
        if (was == place) {
            return no(1, -1);
        }
        act();
        w.people.get(person).walk.set(i, place);
        return was;
    }

    int dye(int thing, int odd) {
        t(thing);
        if (odd < 0 || odd > 9) {
            return no(1, -1);
        }
        act();
        int was = w.things.get(thing).odd;
        w.things.get(thing).odd = odd;
        return was;
    }

    int undo() {
        if (acts.isEmpty()) {
            return -1;
        }
        w = acts.remove(acts.size() - 1);
        return acts.size();
    }

    int then(int thing, int days, int what) {
        t(thing);
        range(what, 2);
        arg(days, 0, 100);
        Thing x = w.after(days).things.get(thing);
        return what == 0 ? x.wearer : what == 1 ? x.owner : x.days;
    }

    int later(int person, int days, int what) {
        p(person);
        range(what, 1);
        arg(days, 0, 100);
        World x = w.after(days);
        return what == 0 ? x.people.get(person).shame : x.owned(person);
    }

    private int own(World from, int thing) {
        int who = from.things.get(thing).wearer;
        for (int k = 1; who >= 0 && k <= 100; k++) {
            if (from.after(k).things.get(thing).owner == who) {
                return k;
            }
        }
        return -1;
    }

    int when(int thing, int what) {
        t(thing);
        range(what, 1);
        if (what == 0) {
            return own(w, thing);
        }
        int who = w.things.get(thing).wearer;
        if (who < 0) {
            return -1;
        }
        for (int k = 1; k <= 100; k++) {
            Thing x = w.after(k).things.get(thing);
            if (x.owner == who) {
                return -1;
            }
            if (x.wearer != who) {
                return k;
            }
        }
        return -1;
    }

    int all(int days, int what) {
        range(what, 3);
        arg(days, 0, 100);
        World x = w.after(days);
        if (what == 2) {
            return worn(x);
        }
        if (what == 3) {
            return x.changed;
        }
        int best = -1;
        int most = -1;
        for (int i = 0; i < x.people.size(); i++) {
            int much = what == 0 ? x.owned(i) : x.people.get(i).shame;
            if (much > most) {
                most = much;
                best = i;
            }
        }
        return best;
    }

    int where(int person, int k, int what) {
        p(person);
        range(what, 1);
        arg(k, 1, 100);
        return what == 0 ? w.place(person, w.day + k - 1) : bits(w.look(person, w.day + k - 1));
    }

    int toStand(int thing, int what) {
        t(thing);
        range(what, 1);
        int who = w.things.get(thing).wearer;
        int best = -1;
        int least = 101;
        for (int place = 0; who >= 0 && place < w.places; place++) {
            World x = w.copy();
            x.people.get(who).walk = new ArrayList<>(List.of(place));
            int k = own(x, thing);
            if (k > 0 && k < least) {
                least = k;
                best = place;
            }
        }
        return best < 0 ? -1 : what == 0 ? best : least;
    }

    int toSteal(int person, int what) {
        p(person);
        range(what, 1);
        int best = -1;
        int least = 101;
        for (int i = 0; i < w.things.size(); i++) {
            if (w.mayTake(person, i)) {
                World x = w.copy();
                x.take(person, i);
                int k = own(x, i);
                if (k > 0 && k < least) {
                    least = k;
                    best = i;
                }
            }
        }
        return best < 0 ? -1 : what == 0 ? best : least;
    }

    int watch(int days) {
        arg(days, 1, 100);
        for (int size = 0; size <= w.places; size++) {
            for (int set = 0; set < 1 << w.places; set++) {
                if (Integer.bitCount(set) == size && watches(set, days)) {
                    return set;
                }
            }
        }
        throw new AssertionError();
    }

    private boolean watches(int set, int days) {
        for (int i = 0; i < w.people.size(); i++) {
            boolean met = w.wears(i).isEmpty();
            for (int k = 0; k < days; k++) {
                met |= (set >> w.place(i, w.day + k) & 1) == 1;
            }
            if (!met) {
                return false;
            }
        }
        return true;
    }

    private int bestSum;
    private List<Integer> bestRow;

    private void goOn(List<Integer> worn, List<Integer> row, int sum) {
        if (row.size() == worn.size()) {
            if (bestRow == null || sum < bestSum) {
                bestRow = new ArrayList<>(row);
                bestSum = sum;
            }
            return;
        }
        Thing x = w.things.get(worn.get(row.size()));
        for (int i = 0; i < w.people.size(); i++) {
            if (i != x.owner && !row.contains(i)) {
                row.add(i);
                goOn(worn, row, sum + Math.max(0, x.odd - w.people.get(i).vanity));
                row.remove(row.size() - 1);
            }
        }
    }

    int least(int thing) {
        if (thing != -1) {
            t(thing);
        }
        List<Integer> worn = new ArrayList<>();
        for (int i = 0; i < w.things.size(); i++) {
            if (w.things.get(i).wearer >= 0) {
                worn.add(i);
            }
        }
        bestRow = null;
        if (worn.size() <= w.people.size()) {
            goOn(worn, new ArrayList<>(), 0);
        }
        if (bestRow == null) {
            return -2;
        }
        if (thing == -1) {
            return bestSum;
        }
        return worn.contains(thing) ? bestRow.get(worn.indexOf(thing)) : -1;
    }

    int whose(int person) {
        p(person);
        return bits(new ArrayList<>(reach(person)));
    }

    int note(int thing, int days, boolean worn) {
        t(thing);
        if (notes.size() == 8 || days < 0 || days > 30) {
            return no(2, -1);
        }
        notes.add(new Note(thing, days, worn));
        return notes.size();
    }

    void forget() {
        notes.clear();
    }

    private boolean noted(World x) {
        for (Note n : notes) {
            if ((x.after(n.days()).things.get(n.thing()).wearer >= 0) != n.worn()) {
                return false;
            }
        }
        return true;
    }

    private List<Integer> vains() {
        List<Integer> all = new ArrayList<>();
        for (int i = 0; i < w.people.size(); i++) {
            for (int v = 0; v < 10; v++) {
                if (v != w.people.get(i).vanity && noted(with(i, v))) {
                    all.add(10 * i + v);
                }
            }
        }
        return all;
    }

    private World with(int person, int vanity) {
        World x = w.copy();
        x.people.get(person).vanity = vanity;
        return x;
    }

    int vain(int what) {
        range(what, 2);
        if (what == 2) {
            return noted(w) ? 1 : 0;
        }
        List<Integer> all = vains();
        return what == 0 ? all.size() : all.isEmpty() ? -1 : all.get(0);
    }

    int ask(int what) {
        range(what, 1);
        List<World> later = new ArrayList<>();
        for (int c : vains()) {
            later.add(with(c / 10, c % 10).after(10));
        }
        int best = -1;
        int most = 0;
        for (int i = 0; i < w.things.size(); i++) {
            Set<String> unlike = new HashSet<>();
            for (World x : later) {
                unlike.add(x.things.get(i).days + " " + x.things.get(i).wearer);
            }
            if (unlike.size() > most) {
                most = unlike.size();
                best = i;
            }
        }
        return what == 0 ? best : most;
    }

    private int fogFrom(World x, int thing, int days, int tenths, int owner) {
        if (days == 0) {
            return x.things.get(thing).owner != owner ? 1 : 0;
        }
        World foggy = x.copy();
        foggy.oneDay(true);
        World clear = x.copy();
        clear.oneDay(false);
        return tenths * fogFrom(foggy, thing, days - 1, tenths, owner)
            + (10 - tenths) * fogFrom(clear, thing, days - 1, tenths, owner);
    }

    int fog(int thing, int days, int tenths) {
        t(thing);
        arg(days, 1, 5);
        arg(tenths, 0, 10);
        return fogFrom(w, thing, days, tenths, w.things.get(thing).owner);
    }

    private int gain(int a, int b, int choiceA, int choiceB, int of) {
        World x = w.copy();
        for (int i = 0; i < x.things.size(); i++) {
            int who = x.things.get(i).wearer;
            if (who == a && choiceA == 1 || who == b && choiceB == 1) {
                x.off(i);
            }
        }
        World y = x.after(12);
        int many = 0;
        for (Thing q : y.things) {
            if (q.owner == of) {
                many++;
            }
        }
        return 4 * many - y.people.get(of).shame / 8;
    }

    int game(int a, int b, int what) {
        p(a);
        p(b);
        range(what, 1);
        if (a == b) {
            throw new IllegalArgumentException();
        }
        if (w.wears(a).isEmpty() || w.wears(b).isEmpty()) {
            return -1;
        }
        List<Integer> rests = new ArrayList<>();
        for (int i = 0; i < 2; i++) {
            for (int j = 0; j < 2; j++) {
                if (gain(a, b, i, j, a) >= gain(a, b, 1 - i, j, a) && gain(a, b, i, j, b) >= gain(a, b, i, 1 - j, b)) {
                    rests.add(10 * i + j);
                }
            }
        }
        return what == 0 ? rests.size() : rests.isEmpty() ? -1 : rests.get(0);
    }

    private int seed;

    private int draw(int n) {
        seed = (int) (seed * 1103515245L + 12345L);
        return Integer.remainderUnsigned(seed << 1 >>> 17, n);
    }

    int years(int start, int n, int what) {
        range(what, 2);
        arg(n, 0, 100);
        seed = start;
        World x = w.copy();
        for (int i = 0; i < n; i++) {
            int event = draw(5);
            if (!x.people.isEmpty() && !x.things.isEmpty()) {
                if (event == 0) {
                    int who = draw(x.people.size());
                    int which = draw(x.things.size());
                    if (x.mayTake(who, which)) {
                        x.take(who, which);
                    }
                }
                if (event == 1) {
                    Thing which = x.things.get(draw(x.things.size()));
                    which.odd = draw(10);
                }
                if (event == 2) {
                    x.people.get(draw(x.people.size())).shame = 0;
                }
            }
            x.oneDay(false);
        }
        return what == 0 ? x.changed : what == 1 ? shameSum(x) : Integer.bitCount(worn(x));
    }

    int meet(int a, int b) {
        p(a);
        p(b);
        for (int k = 1; a != b && k <= 100; k++) {
            if (w.place(a, w.day + k - 1) == w.place(b, w.day + k - 1)) {
                return k;
            }
        }
        return -1;
    }

    int faced(int thing) {
        t(thing);
        Thing x = w.things.get(thing);
        for (int k = 1; x.wearer >= 0 && k <= 100; k++) {
            if (w.look(x.wearer, w.day + k - 1).contains(x.owner)) {
                return k;
            }
        }
        return -1;
    }

    int walks(int days, int what) {
        range(what, 1);
        arg(days, 1, 100);
        int[] visits = new int[w.places];
        int unseen = 0;
        for (int i = 0; i < w.people.size(); i++) {
            boolean seen = false;
            for (int k = 0; k < days; k++) {
                visits[w.place(i, w.day + k)]++;
                seen |= !w.look(i, w.day + k).isEmpty();
            }
            if (!seen && !w.wears(i).isEmpty()) {
                unseen |= 1 << i;
            }
        }
        int most = Arrays.stream(visits).max().orElse(0);
        int best = 0;
        while (visits[best] != most) {
            best++;
        }
        return what == 0 ? best : unseen;
    }

    int shamed(int person, int much) {
        p(person);
        arg(much, 1, 99);
        for (int k = 0; k <= 100; k++) {
            if (w.after(k).people.get(person).shame >= much) {
                return k;
            }
        }
        return -1;
    }

    int has(int person, int days) {
        p(person);
        arg(days, 0, 100);
        World x = w.after(days);
        int b = 0;
        for (int i = 0; i < x.things.size(); i++) {
            if (x.things.get(i).owner == person) {
                b |= 1 << i;
            }
        }
        return b;
    }

    int takes(int a, int b) {
        p(a);
        p(b);
        int all = 0;
        for (int i : w.wears(a)) {
            if (w.things.get(i).owner == b) {
                all |= 1 << i;
            }
        }
        return all;
    }

    int quiet(int days) {
        arg(days, 0, 100);
        int loud = 0;
        for (int k = 0; k <= days; k++) {
            loud |= worn(w.after(k));
        }
        return ((1 << w.things.size()) - 1) & ~loud;
    }

    void image() {
        imageWorld = w.copy();
        imageActs = new ArrayList<>();
        for (World x : acts) {
            imageActs.add(x.copy());
        }
        imageNotes = new ArrayList<>(notes);
    }

    boolean restore() {
        if (imageWorld == null) {
            return false;
        }
        w = imageWorld.copy();
        acts = new ArrayList<>();
        for (World x : imageActs) {
            acts.add(x.copy());
        }
        notes = new ArrayList<>(imageNotes);
        return true;
    }

    static byte[] bytes(String s) {
        return s.getBytes(StandardCharsets.ISO_8859_1);
    }
}
