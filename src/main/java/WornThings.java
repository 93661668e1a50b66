import java.util.Arrays;
import java.util.NoSuchElementException;

/**
 * A city in which a thief must wear what was stolen until it is the thief's own.
 * The words in the comments are those of the document.
 */
public final class WornThings {
    public static final int NONE = -1;

    private static final int REFUSED = -2;
    private static final int MOST_PEOPLE = 8;
    private static final int MOST_THINGS = 10;
    private static final int MOST_STEPS = 6;
    private static final int MOST_PLACES = 6;
    private static final int MOST_BYTES = 700;
    private static final int MOST_DAYS = 100;
    private static final int LAST_DAY = 9999;
    private static final int OF_TEXTS = 0;
    private static final int OF_ACTS = 1;
    private static final int OF_NOTES = 2;

    private final byte[] tape = new byte[MOST_BYTES];
    private int tapeLength;
    private int faultPlace = NONE;
    private final int[] status = new int[3];
    private final Reader reader = new Reader();
    private City city = new City();
    private City draft = new City();
    private final Town now = new Town();
    private final Acts acts = new Acts();
    private final Notes notes = new Notes();
    private boolean imageKept;
    private final int[] imageRow = new int[Town.ROW];
    private final Acts imageActs = new Acts();
    private final Notes imageNotes = new Notes();
    private final Trials trials = new Trials();
    private final Vanities vanities = new Vanities();
    private final Ties ties = new Ties();

    public WornThings() {
        now.begin(city);
    }

    public int feed(int a, int b, int c, int d, int e) {
        if (tapeLength + 20 > MOST_BYTES) {
            return NONE;
        }
        putBytes(a);
        putBytes(b);
        putBytes(c);
        putBytes(d);
        putBytes(e);
        return tapeLength;
    }

    public int city(int n) throws IllegalArgumentException {
        if (n < 0 || n > tapeLength) {
            throw new IllegalArgumentException();
        }
        tapeLength = 0;
        reader.begin(tape, n, draft);
        boolean fine = true;
        for (int i = 0; i <= MOST_BYTES && fine && reader.hasMore(); i++) {
            fine = reader.line();
        }
        faultPlace = reader.faultStart;
        if (reader.fault != 0) {
            return refuse(OF_TEXTS, reader.fault);
        }
        City old = city;
        city = draft;
        draft = old;
        now.begin(city);
        acts.clear();
        notes.clear();
        imageKept = false;
        return 0;
    }

    public int fault() {
        return faultPlace;
    }

    public int count(int what) throws NoSuchElementException {
        needWhat(what, 13);
        switch (what) {
            case 0: return city.places;
            case 1: return city.people;
            case 2: return city.things;
            case 3: return city.term;
            case 4: return now.day;
            case 5: return now.wornBits();
            case 6: return ties.rings(now);
            case 7: return now.shameOfAll();
            case 8: return acts.many;
            case 9: return notes.many;
            case 10: return tapeLength;
            default: return status[what - 11];
        }
    }

    public int person(int person, int what) throws NoSuchElementException {
        needPerson(person);
        needWhat(what, 8);
        switch (what) {
            case 0: return city.vanity[person];
            case 1: return now.placeOn(person, now.day);
            case 2: return now.shame[person];
            case 3: return city.blind[person];
            case 4: return now.wearsBits(person);
            case 5: return now.load(person);
            case 6: return now.missed(person);
            case 7: return now.wealth(person);
            default: return now.oddest(person);
        }
    }

    public int thing(int thing, int what) throws NoSuchElementException {
        needThing(thing);
        needWhat(what, 5);
        switch (what) {
            case 0: return city.weight[thing];
            case 1: return now.odd[thing];
            case 2: return now.owner[thing];
            case 3: return now.wearer[thing];
            case 4: return now.seen[thing];
            default: return now.shameToday(thing);
        }
    }

    public int days(int many) {
        if (many < 1 || many > 20 || now.day + many > LAST_DAY) {
            return refuse(OF_ACTS, NONE);
        }
        acts.keep(now);
        for (int i = 0; i < many; i++) {
            now.passDay(false);
        }
        return now.day;
    }

    public int steal(int person, int thing) throws NoSuchElementException {
        needPerson(person);
        needThing(thing);
        if (!now.maySteal(person, thing)) {
            return refuse(OF_ACTS, REFUSED);
        }
        acts.keep(now);
        int before = now.wearer[thing];
        now.putOn(person, thing);
        return before;
    }

    public int back(int thing) throws NoSuchElementException {
        needThing(thing);
        if (now.wearer[thing] == NONE) {
            return refuse(OF_ACTS, NONE);
        }
        acts.keep(now);
        int before = now.seen[thing];
        now.putOn(NONE, thing);
        return before;
    }

    public int walk(int person, int i, int place) throws NoSuchElementException {
        needPerson(person);
        if (i < 0 || i >= city.walkLength[person] || place < 0 || place >= city.places) {
            throw new NoSuchElementException();
        }
        int at = person * MOST_STEPS + i;
        int before = now.walk[at];
        if (before == place) {
            return refuse(OF_ACTS, NONE);
        }
        acts.keep(now);
        now.walk[at] = place;
        return before;
    }

    public int dye(int thing, int odd) throws NoSuchElementException {
        needThing(thing);
        if (odd < 0 || odd > 9) {
            return refuse(OF_ACTS, NONE);
        }
        acts.keep(now);
        int before = now.odd[thing];
        now.odd[thing] = odd;
        return before;
    }

    public int undo() {
        return acts.takeBack(now);
    }

    public int then(int thing, int days, int what) throws NoSuchElementException, IllegalArgumentException {
        needThing(thing);
        needWhat(what, 2);
        needWithin(days, 0, MOST_DAYS);
        Town later = trials.behind(now, days);
        if (what == 0) {
            return later.wearer[thing];
        }
        return what == 1 ? later.owner[thing] : later.seen[thing];
    }

    public int later(int person, int days, int what) throws NoSuchElementException, IllegalArgumentException {
        needPerson(person);
        needWhat(what, 1);
        needWithin(days, 0, MOST_DAYS);
        Town later = trials.behind(now, days);
        return what == 0 ? later.shame[person] : later.wealth(person);
    }

    public int when(int thing, int what) throws NoSuchElementException {
        needThing(thing);
        needWhat(what, 1);
        trials.start(now);
        return trials.endOfWearing(thing, what == 0);
    }

    public int all(int days, int what) throws NoSuchElementException, IllegalArgumentException {
        needWhat(what, 3);
        needWithin(days, 0, MOST_DAYS);
        Town later = trials.behind(now, days);
        switch (what) {
            case 0: return later.richest();
            case 1: return later.mostAshamed();
            case 2: return later.wornBits();
            default: return later.changes;
        }
    }

    public int where(int person, int k, int what) throws NoSuchElementException, IllegalArgumentException {
        needPerson(person);
        needWhat(what, 1);
        needWithin(k, 1, MOST_DAYS);
        int day = now.day + k - 1;
        return what == 0 ? now.placeOn(person, day) : now.lookersOn(person, day);
    }

    public int toStand(int thing, int what) throws NoSuchElementException {
        needThing(thing);
        needWhat(what, 1);
        return trials.bestPlace(now, thing, what == 0);
    }

    public int toSteal(int person, int what) throws NoSuchElementException {
        needPerson(person);
        needWhat(what, 1);
        return trials.bestThing(now, person, what == 0);
    }

    public int watch(int days) throws IllegalArgumentException {
        needWithin(days, 1, MOST_DAYS);
        return ties.fewestPlaces(now, days);
    }

    public int least(int thing) throws NoSuchElementException {
        if (thing != NONE) {
            needThing(thing);
        }
        return ties.leastShame(now, thing);
    }

    public int whose(int person) throws NoSuchElementException {
        needPerson(person);
        return ties.cameTo(now, person);
    }

    public int note(int thing, int days, boolean worn) throws NoSuchElementException {
        needThing(thing);
        if (notes.isFull() || days < 0 || days > Notes.LAST_DAY_NOTED) {
            return refuse(OF_NOTES, NONE);
        }
        notes.put(thing, days, worn);
        return notes.many;
    }

    public void forget() {
        notes.clear();
    }

    public int vain(int what) throws NoSuchElementException {
        needWhat(what, 2);
        if (what == 2) {
            trials.start(now);
            return notes.hold(trials.town) ? 1 : 0;
        }
        vanities.find(now, notes, trials);
        return what == 0 ? vanities.many : vanities.first();
    }

    public int ask(int what) throws NoSuchElementException {
        needWhat(what, 1);
        vanities.find(now, notes, trials);
        vanities.compare(now, trials);
        return what == 0 ? vanities.bestThing : vanities.unlikeOnes;
    }

    public int fog(int thing, int days, int tenths) throws NoSuchElementException, IllegalArgumentException {
        needThing(thing);
        needWithin(days, 1, 5);
        needWithin(tenths, 0, 10);
        return trials.inFog(now, thing, days, tenths);
    }

    public int game(int person, int other, int what) throws NoSuchElementException, IllegalArgumentException {
        needPerson(person);
        needPerson(other);
        needWhat(what, 1);
        if (person == other) {
            throw new IllegalArgumentException();
        }
        if (now.wearsBits(person) == 0 || now.wearsBits(other) == 0) {
            return NONE;
        }
        trials.play(now, person, other);
        return what == 0 ? trials.couplesAtRest() : trials.firstCoupleAtRest();
    }

    public int years(int seed, int n, int what) throws NoSuchElementException, IllegalArgumentException {
        needWhat(what, 2);
        needWithin(n, 0, MOST_DAYS);
        Town later = trials.drawYears(now, seed, n);
        if (what == 0) {
            return later.changes;
        }
        return what == 1 ? later.shameOfAll() : Integer.bitCount(later.wornBits());
    }

    public int meet(int person, int other) throws NoSuchElementException {
        needPerson(person);
        needPerson(other);
        return person == other ? NONE : now.firstTogether(person, other);
    }

    public int faced(int thing) throws NoSuchElementException {
        needThing(thing);
        int who = now.wearer[thing];
        int owner = now.owner[thing];
        // the walks never change who is blind, so a blind owner never looks
        if (who == NONE || city.blind[owner] != 0) {
            return NONE;
        }
        return now.firstTogether(who, owner);
    }

    public int walks(int days, int what) throws NoSuchElementException, IllegalArgumentException {
        needWhat(what, 1);
        needWithin(days, 1, MOST_DAYS);
        return what == 0 ? ties.busiest(now, days) : now.unseen(days);
    }

    public int shamed(int person, int much) throws NoSuchElementException, IllegalArgumentException {
        needPerson(person);
        needWithin(much, 1, 99);
        trials.start(now);
        return trials.daysToShame(person, much);
    }

    public int has(int person, int days) throws NoSuchElementException, IllegalArgumentException {
        needPerson(person);
        needWithin(days, 0, MOST_DAYS);
        return trials.behind(now, days).ownsBits(person);
    }

    public int takes(int person, int other) throws NoSuchElementException {
        needPerson(person);
        needPerson(other);
        return now.wearsBits(person) & now.ownsBits(other);
    }

    public int quiet(int days) throws IllegalArgumentException {
        needWithin(days, 0, MOST_DAYS);
        trials.start(now);
        return trials.neverWorn(days);
    }

    public void image() {
        now.pack(imageRow, 0);
        imageActs.copyFrom(acts);
        imageNotes.copyFrom(notes);
        imageKept = true;
    }

    public boolean restore() {
        if (!imageKept) {
            return false;
        }
        now.unpack(imageRow, 0);
        acts.copyFrom(imageActs);
        notes.copyFrom(imageNotes);
        return true;
    }

    private void putBytes(int four) {
        for (int shift = 24; shift >= 0; shift -= 8) {
            if (tapeLength < MOST_BYTES) {
                tape[tapeLength] = (byte) (four >>> shift);
                tapeLength++;
            }
        }
    }

    private int refuse(int kind, int answer) {
        status[kind]++;
        return answer;
    }

    private void needPerson(int person) {
        if (person < 0 || person >= city.people) {
            throw new NoSuchElementException();
        }
    }

    private void needThing(int thing) {
        if (thing < 0 || thing >= city.things) {
            throw new NoSuchElementException();
        }
    }

    private static void needWhat(int what, int most) {
        if (what < 0 || what > most) {
            throw new NoSuchElementException();
        }
    }

    private static void needWithin(int number, int least, int most) {
        if (number < least || number > most) {
            throw new IllegalArgumentException();
        }
    }

    /** What a text tells, before any day goes by. */
    private static final class City {
        int places;
        int people;
        int things;
        int term;
        final int[] vanity = new int[MOST_PEOPLE];
        // 1: looks at nobody
        final int[] blind = new int[MOST_PEOPLE];
        final int[] walkLength = new int[MOST_PEOPLE];
        final int[] walk = new int[MOST_PEOPLE * MOST_STEPS];
        final int[] weight = new int[MOST_THINGS];
        final int[] odd = new int[MOST_THINGS];
        final int[] owner = new int[MOST_THINGS];
        final int[] wearer = new int[MOST_THINGS];
        // both rules come from one text, so one row is long enough for both
        final int[] code = new int[MOST_BYTES];
        int codeLength;
        final Rule shames = new Rule();
        final Rule returns = new Rule();

        City() {
            clear();
        }

        void clear() {
            places = 3;
            people = 0;
            things = 0;
            term = 10;
            Arrays.fill(vanity, 0);
            Arrays.fill(blind, 0);
            Arrays.fill(walkLength, 0);
            Arrays.fill(walk, 0);
            Arrays.fill(weight, 0);
            Arrays.fill(odd, 0);
            Arrays.fill(owner, 0);
            Arrays.fill(wearer, NONE);
            codeLength = 0;
            shames.from = 0;
            shames.end = 0;
            returns.from = 0;
            returns.end = 0;
        }

        void putCode(int sign) {
            if (codeLength < MOST_BYTES) {
                code[codeLength] = sign;
                codeLength++;
            }
        }
    }

    /** A rule of the text, with each operator behind what it works on. */
    private static final class Rule {
        // below FIRST_VALUE a sign of the code is the number itself
        static final int FIRST_VALUE = 10000;
        static final int FIRST_OPERATOR = 20000;
        static final int ODD = 0;
        static final int WEIGHT = 1;
        static final int COUNT = 2;
        static final int EYES = 3;
        static final int VANITY = 4;
        static final int OWNER = 5;
        static final int DAY = 6;
        static final int SHAME = 7;
        static final int MANY = 8;
        static final int VALUES = 9;
        static final int OPEN = 0;
        static final int OR = 1;
        static final int AND = 2;
        static final int NOT = 3;
        static final int LESS = 4;
        static final int EQUAL = 5;
        static final int PLUS = 6;
        static final int MINUS = 7;
        static final int TIMES = 8;
        static final int OVER = 9;
        static final int STACK = 64;

        // where it stands in its city's code
        int from;
        int end;

        boolean isTold() {
            return end > from;
        }

        int result(int[] code, int[] values, int[] stack) {
            int top = 0;
            for (int i = from; i < end && i < code.length; i++) {
                int sign = code[i];
                int value = sign - FIRST_VALUE;
                int operator = sign - FIRST_OPERATOR;
                if (operator == NOT && top >= 1) {
                    stack[top - 1] = stack[top - 1] == 0 ? 1 : 0;
                } else if (operator >= 0 && top >= 2) {
                    top--;
                    stack[top - 1] = two(operator, stack[top - 1], stack[top]);
                } else if (operator < 0 && top < stack.length) {
                    stack[top] = value >= 0 && value < values.length ? values[value] : sign;
                    top++;
                }
            }
            return top > 0 ? stack[0] : 0;
        }

        private static int two(int operator, int a, int b) {
            switch (operator) {
                case OR: return a != 0 || b != 0 ? 1 : 0;
                case AND: return a != 0 && b != 0 ? 1 : 0;
                case LESS: return a < b ? 1 : 0;
                case EQUAL: return a == b ? 1 : 0;
                case PLUS: return a + b;
                case MINUS: return a - b;
                case TIMES: return a * b;
                default: return b == 0 ? 0 : a / b;
            }
        }
    }

    /** Reads a text into a city, up to its first fault. */
    private static final class Reader {
        private static final int END = 0;
        private static final int WORD = 1;
        private static final int NUMBER = 2;
        private static final int SIGN = 3;
        private static final int UNKNOWN = 4;
        private static final int MOST_DIGITS = 4;
        private static final int MOST_NESTED = 6;
        private static final int MOST_NOTS = 6;
        private static final int MOST_WAITING = 128;
        // how tightly each operator of Rule binds, by its number
        private static final int[] BINDING = {0, 1, 2, 3, 4, 4, 5, 5, 6, 6};
        private static final int BINDING_OF_TESTS = 4;

        private byte[] text = new byte[0];
        private int length;
        private int kind;
        private int start;
        private int end;
        private int number;
        private int digits;
        private City city;
        private boolean placesTold;
        private boolean termTold;
        int fault;
        int faultStart;
        // operators and open parentheses whose right side is not read yet
        private final int[] waiting = new int[MOST_WAITING];
        private int waitingMany;
        private int nested;
        private int nots;
        private boolean partDue;
        private boolean notMayStand;

        void begin(byte[] bytes, int n, City into) {
            text = bytes;
            length = Math.min(n, bytes.length);
            city = into;
            into.clear();
            end = 0;
            placesTold = false;
            termTold = false;
            fault = 0;
            faultStart = NONE;
            next();
        }

        boolean hasMore() {
            return kind != END;
        }

        private boolean fail(int which) {
            fault = which;
            faultStart = start;
            return false;
        }

        private void next() {
            start = end;
            while (start < length && (text[start] == ' ' || text[start] == '\n')) {
                start++;
            }
            end = start;
            if (start >= length) {
                kind = END;
            } else if (text[start] >= 'a' && text[start] <= 'z') {
                nextWord();
            } else if (text[start] >= '0' && text[start] <= '9') {
                nextNumber();
            } else {
                kind = ";()+-*/<=".indexOf((char) (text[start] & 255)) >= 0 ? SIGN : UNKNOWN;
                end++;
            }
        }

        private void nextWord() {
            kind = WORD;
            while (end < length && text[end] >= 'a' && text[end] <= 'z') {
                end++;
            }
        }

        private void nextNumber() {
            kind = NUMBER;
            number = 0;
            digits = 0;
            while (end < length && text[end] >= '0' && text[end] <= '9') {
                if (digits < MOST_DIGITS) {
                    number = number * 10 + text[end] - '0';
                }
                digits++;
                end++;
            }
        }

        private boolean isWord(String word) {
            if (kind != WORD || end - start != word.length()) {
                return false;
            }
            for (int i = 0; i < word.length(); i++) {
                if (text[start + i] != word.charAt(i)) {
                    return false;
                }
            }
            return true;
        }

        private boolean isSign(char sign) {
            return kind == SIGN && text[start] == sign;
        }

        boolean line() {
            if (isWord("places")) {
                return placesLine();
            }
            if (isWord("person")) {
                return personLine(0);
            }
            if (isWord("blind")) {
                return personLine(1);
            }
            if (isWord("thing")) {
                return thingLine();
            }
            if (isWord("term")) {
                return termLine();
            }
            if (isWord("shames")) {
                return ruleLine(city.shames);
            }
            if (isWord("returns")) {
                return ruleLine(city.returns);
            }
            return fail(1);
        }

        private boolean lineEnd() {
            if (!isSign(';')) {
                return fail(1);
            }
            next();
            return true;
        }

        /** Steps to the next token, which must be a number of at most four digits. */
        private boolean nextIsNumber() {
            next();
            return isFitNumber();
        }

        private boolean isFitNumber() {
            if (kind != NUMBER) {
                return fail(1);
            }
            return digits <= MOST_DIGITS || fail(2);
        }

        private boolean nextIsWithin(int least, int most) {
            return nextIsNumber() && (number >= least && number <= most || fail(2));
        }

        private boolean placesLine() {
            if (city.people > 0) {
                return fail(4);
            }
            if (placesTold) {
                return fail(5);
            }
            if (!nextIsWithin(2, MOST_PLACES)) {
                return false;
            }
            city.places = number;
            placesTold = true;
            next();
            return lineEnd();
        }

        private boolean termLine() {
            if (termTold) {
                return fail(5);
            }
            if (!nextIsWithin(1, 99)) {
                return false;
            }
            city.term = number;
            termTold = true;
            next();
            return lineEnd();
        }

        private boolean personLine(int blind) {
            int who = city.people;
            if (who >= MOST_PEOPLE) {
                return fail(2);
            }
            if (!nextIsWithin(0, 9)) {
                return false;
            }
            city.vanity[who] = number;
            city.blind[who] = blind;
            next();
            int steps = 0;
            for (int i = 0; i <= MOST_STEPS && (i == 0 || kind == NUMBER); i++) {
                if (!isFitPlace(steps)) {
                    return false;
                }
                city.walk[who * MOST_STEPS + steps] = number;
                steps++;
                next();
            }
            city.walkLength[who] = steps;
            city.people++;
            return lineEnd();
        }

        private boolean isFitPlace(int steps) {
            if (!isFitNumber()) {
                return false;
            }
            if (steps >= MOST_STEPS) {
                return fail(2);
            }
            return number < city.places || fail(3);
        }

        private boolean nextIsPerson() {
            return nextIsNumber() && (number < city.people || fail(3));
        }

        private boolean thingLine() {
            int thing = city.things;
            if (thing >= MOST_THINGS) {
                return fail(2);
            }
            if (!nextIsWithin(1, 30)) {
                return false;
            }
            city.weight[thing] = number;
            if (!nextIsWithin(0, 9)) {
                return false;
            }
            city.odd[thing] = number;
            if (!nextIsPerson()) {
                return false;
            }
            city.owner[thing] = number;
            next();
            if (isWord("by")) {
                if (!nextIsPerson()) {
                    return false;
                }
                if (number == city.owner[thing]) {
                    return fail(4);
                }
                city.wearer[thing] = number;
                next();
            }
            city.things++;
            return lineEnd();
        }

        private boolean ruleLine(Rule rule) {
            if (rule.isTold()) {
                return fail(5);
            }
            int from = city.codeLength;
            beginRule();
            boolean ended = false;
            for (int i = 0; i <= MOST_BYTES && !ended; i++) {
                next();
                ended = !partDue && nested == 0 && isSign(';');
                if (!ended && !(partDue ? part(rule == city.shames) : behindPart())) {
                    return false;
                }
            }
            putTighter(0);
            rule.from = from;
            rule.end = city.codeLength;
            return lineEnd();
        }

        private void beginRule() {
            waitingMany = 0;
            nested = 0;
            nots = 0;
            partDue = true;
            notMayStand = true;
        }

        private boolean part(boolean ofShames) {
            boolean canStand = kind == NUMBER || kind == WORD || isSign('(');
            if (!canStand) {
                return fail(1);
            }
            if (nested >= MOST_NESTED) {
                return fail(2);
            }
            if (kind == NUMBER) {
                return isFitNumber() && putPart(number);
            }
            if (kind == WORD) {
                return wordOfPart(ofShames);
            }
            nested++;
            nots = 0;
            notMayStand = true;
            return await(Rule.OPEN);
        }

        private boolean wordOfPart(boolean ofShames) {
            if (notMayStand && isWord("not")) {
                if (nots >= MOST_NOTS) {
                    return fail(2);
                }
                nots++;
                return await(Rule.NOT);
            }
            int value = ofShames ? valueOfShames() : valueOfReturns();
            return value == NONE ? fail(3) : putPart(Rule.FIRST_VALUE + value);
        }

        private int valueOfShames() {
            if (isWord("odd")) {
                return Rule.ODD;
            }
            if (isWord("weight")) {
                return Rule.WEIGHT;
            }
            if (isWord("count")) {
                return Rule.COUNT;
            }
            if (isWord("eyes")) {
                return Rule.EYES;
            }
            if (isWord("vanity")) {
                return Rule.VANITY;
            }
            if (isWord("owner")) {
                return Rule.OWNER;
            }
            return isWord("day") ? Rule.DAY : NONE;
        }

        private int valueOfReturns() {
            if (isWord("shame")) {
                return Rule.SHAME;
            }
            if (isWord("vanity")) {
                return Rule.VANITY;
            }
            if (isWord("many")) {
                return Rule.MANY;
            }
            return isWord("day") ? Rule.DAY : NONE;
        }

        private boolean putPart(int sign) {
            city.putCode(sign);
            partDue = false;
            return true;
        }

        private boolean behindPart() {
            if (isSign(')')) {
                return close();
            }
            int operator = operatorRead();
            if (operator == NONE) {
                return fail(1);
            }
            int binding = BINDING[operator];
            putTighter(binding == BINDING_OF_TESTS ? binding + 1 : binding);
            if (binding == BINDING_OF_TESTS && bindingOnTop() == binding) {
                return fail(1);
            }
            partDue = true;
            nots = 0;
            notMayStand = operator == Rule.OR || operator == Rule.AND;
            return await(operator);
        }

        private boolean close() {
            if (nested < 1 || waitingMany < 1) {
                return fail(1);
            }
            nested--;
            putTighter(1);
            if (waitingMany > 0) {
                waitingMany--;
            }
            return true;
        }

        private int operatorRead() {
            if (kind == WORD) {
                if (isWord("or")) {
                    return Rule.OR;
                }
                return isWord("and") ? Rule.AND : NONE;
            }
            if (kind != SIGN) {
                return NONE;
            }
            switch (text[start]) {
                case '<': return Rule.LESS;
                case '=': return Rule.EQUAL;
                case '+': return Rule.PLUS;
                case '-': return Rule.MINUS;
                case '*': return Rule.TIMES;
                case '/': return Rule.OVER;
                default: return NONE;
            }
        }

        private boolean await(int operator) {
            // six nested rules with every operator each stay far below the row's length
            if (waitingMany >= MOST_WAITING) {
                return fail(2);
            }
            waiting[waitingMany] = operator;
            waitingMany++;
            return true;
        }

        private int bindingOnTop() {
            return waitingMany > 0 ? BINDING[waiting[waitingMany - 1]] : 0;
        }

        /** Writes the waiting operators that bind at least so tightly, up to an open parenthesis. */
        private void putTighter(int binding) {
            int least = Math.max(binding, 1);
            while (waitingMany > 0 && bindingOnTop() >= least) {
                waitingMany--;
                city.putCode(Rule.FIRST_OPERATOR + waiting[waitingMany]);
            }
        }
    }

    /** People and things as they are on a day. */
    private static final class Town {
        static final int ROW = 1 + MOST_THINGS + MOST_PEOPLE;
        private static final int STEP_BITS = 3;
        private static final int SHAME_BITS = 7;

        City city;
        int day;
        // how often a thing became somebody's own since begin or copyFrom
        int changes;
        final int[] vanity = new int[MOST_PEOPLE];
        final int[] shame = new int[MOST_PEOPLE];
        final int[] walk = new int[MOST_PEOPLE * MOST_STEPS];
        final int[] odd = new int[MOST_THINGS];
        final int[] owner = new int[MOST_THINGS];
        final int[] wearer = new int[MOST_THINGS];
        // a thing's DAYS: those on which somebody looked at who wears it
        final int[] seen = new int[MOST_THINGS];
        // who looks at each place on the day that lookAround was asked for, as bits
        private final int[] sight = new int[MOST_PLACES];
        // how many things each one still wears in the evening
        private final int[] many = new int[MOST_PEOPLE];
        private final int[] values = new int[Rule.VALUES];
        private final int[] stack = new int[Rule.STACK];

        void begin(City told) {
            city = told;
            day = 0;
            changes = 0;
            copyRow(told.vanity, vanity);
            Arrays.fill(shame, 0);
            copyRow(told.walk, walk);
            copyRow(told.odd, odd);
            copyRow(told.owner, owner);
            copyRow(told.wearer, wearer);
            Arrays.fill(seen, 0);
        }

        void copyFrom(Town other) {
            city = other.city;
            day = other.day;
            changes = 0;
            copyRow(other.vanity, vanity);
            copyRow(other.shame, shame);
            copyRow(other.walk, walk);
            copyRow(other.odd, odd);
            copyRow(other.owner, owner);
            copyRow(other.wearer, wearer);
            copyRow(other.seen, seen);
        }

        private static void copyRow(int[] from, int[] to) {
            System.arraycopy(from, 0, to, 0, Math.min(from.length, to.length));
        }

        /** Writes all that acts change into ROW numbers; what only the text tells is left out. */
        void pack(int[] rows, int from) {
            if (from < 0 || from + ROW > rows.length) {
                return;
            }
            rows[from] = day;
            for (int t = 0; t < MOST_THINGS; t++) {
                rows[from + 1 + t] = wearer[t] + 1 | owner[t] << 4 | odd[t] << 8 | seen[t] << 12;
            }
            for (int p = 0; p < MOST_PEOPLE; p++) {
                int packed = shame[p];
                for (int i = 0; i < MOST_STEPS; i++) {
                    packed |= walk[p * MOST_STEPS + i] << SHAME_BITS + STEP_BITS * i;
                }
                rows[from + 1 + MOST_THINGS + p] = packed;
            }
        }

        void unpack(int[] rows, int from) {
            if (from < 0 || from + ROW > rows.length) {
                return;
            }
            day = rows[from];
            for (int t = 0; t < MOST_THINGS; t++) {
                int packed = rows[from + 1 + t];
                wearer[t] = (packed & 15) - 1;
                owner[t] = packed >> 4 & 15;
                odd[t] = packed >> 8 & 15;
                seen[t] = packed >> 12;
            }
            for (int p = 0; p < MOST_PEOPLE; p++) {
                int packed = rows[from + 1 + MOST_THINGS + p];
                shame[p] = packed & (1 << SHAME_BITS) - 1;
                for (int i = 0; i < MOST_STEPS; i++) {
                    walk[p * MOST_STEPS + i] = packed >> SHAME_BITS + STEP_BITS * i & (1 << STEP_BITS) - 1;
                }
            }
        }

        void passDay(boolean foggy) {
            lookAround(day);
            for (int t = 0; t < city.things; t++) {
                if (wearer[t] != NONE) {
                    wearForADay(t, foggy ? 0 : lookersAt(wearer[t], day));
                }
            }
            countWorn();
            for (int p = 0; p < city.people; p++) {
                if (many[p] > 0 && givesBack(p)) {
                    putOffAll(p);
                    shame[p] = 0;
                    many[p] = 0;
                }
                if (many[p] == 0) {
                    shame[p] = Math.max(0, shame[p] - 2);
                }
            }
            day++;
        }

        private void countWorn() {
            Arrays.fill(many, 0);
            for (int t = 0; t < city.things; t++) {
                if (wearer[t] != NONE) {
                    many[wearer[t]]++;
                }
            }
        }

        private void wearForADay(int thing, int lookers) {
            int who = wearer[thing];
            shame[who] = Math.min(99, shame[who] + shameBy(thing, lookers));
            if (lookers == 0) {
                return;
            }
            seen[thing]++;
            if (seen[thing] >= city.term) {
                owner[thing] = who;
                putOn(NONE, thing);
                changes++;
            }
        }

        int shameToday(int thing) {
            int who = wearer[thing];
            return who == NONE ? 0 : shameBy(thing, lookersOn(who, day));
        }

        private int shameBy(int thing, int lookers) {
            int who = wearer[thing];
            int eyes = Integer.bitCount(lookers);
            int much = odd[thing] + eyes - vanity[who];
            if (city.shames.isTold()) {
                values[Rule.ODD] = odd[thing];
                values[Rule.WEIGHT] = city.weight[thing];
                values[Rule.COUNT] = seen[thing];
                values[Rule.EYES] = eyes;
                values[Rule.VANITY] = vanity[who];
                values[Rule.OWNER] = lookers >> owner[thing] & 1;
                values[Rule.DAY] = day;
                much = city.shames.result(city.code, values, stack);
            }
            return Math.max(0, Math.min(20, much));
        }

        private boolean givesBack(int person) {
            if (!city.returns.isTold()) {
                return shame[person] >= 40;
            }
            values[Rule.SHAME] = shame[person];
            values[Rule.VANITY] = vanity[person];
            values[Rule.MANY] = many[person];
            values[Rule.DAY] = day;
            return city.returns.result(city.code, values, stack) > 0;
        }

        boolean maySteal(int person, int thing) {
            return owner[thing] != person && wearer[thing] != person;
        }

        void putOn(int person, int thing) {
            wearer[thing] = person;
            seen[thing] = 0;
        }

        void putOffAll(int person) {
            for (int t = 0; t < city.things; t++) {
                if (wearer[t] == person) {
                    putOn(NONE, t);
                }
            }
        }

        void standAlways(int person, int place) {
            for (int i = 0; i < MOST_STEPS; i++) {
                walk[person * MOST_STEPS + i] = place;
            }
        }

        int placeOn(int person, int onDay) {
            int steps = city.walkLength[person];
            return steps < 1 || onDay < 0 ? 0 : walk[person * MOST_STEPS + onDay % steps];
        }

        private void lookAround(int onDay) {
            Arrays.fill(sight, 0);
            for (int p = 0; p < city.people; p++) {
                if (city.blind[p] == 0) {
                    sight[placeOn(p, onDay)] |= 1 << p;
                }
            }
        }

        private int lookersAt(int person, int onDay) {
            return sight[placeOn(person, onDay)] & ~(1 << person);
        }

        int lookersOn(int person, int onDay) {
            lookAround(onDay);
            return lookersAt(person, onDay);
        }

        int firstTogether(int person, int other) {
            for (int k = 1; k <= MOST_DAYS; k++) {
                if (placeOn(person, day + k - 1) == placeOn(other, day + k - 1)) {
                    return k;
                }
            }
            return NONE;
        }

        int unseen(int days) {
            int bits = 0;
            for (int p = 0; p < city.people; p++) {
                if (wearsBits(p) != 0 && !isSeen(p, days)) {
                    bits |= 1 << p;
                }
            }
            return bits;
        }

        private boolean isSeen(int person, int days) {
            for (int k = 0; k < days; k++) {
                if (lookersOn(person, day + k) != 0) {
                    return true;
                }
            }
            return false;
        }

        int wornBits() {
            int bits = 0;
            for (int t = 0; t < city.things; t++) {
                if (wearer[t] != NONE) {
                    bits |= 1 << t;
                }
            }
            return bits;
        }

        int wearsBits(int person) {
            int bits = 0;
            for (int t = 0; t < city.things; t++) {
                if (wearer[t] == person) {
                    bits |= 1 << t;
                }
            }
            return bits;
        }

        int ownsBits(int person) {
            int bits = 0;
            for (int t = 0; t < city.things; t++) {
                if (owner[t] == person) {
                    bits |= 1 << t;
                }
            }
            return bits;
        }

        int missed(int person) {
            return ownsBits(person) & wornBits();
        }

        int load(int person) {
            return weightOf(wearsBits(person));
        }

        int wealth(int person) {
            return weightOf(ownsBits(person));
        }

        private int weightOf(int bits) {
            int sum = 0;
            for (int t = 0; t < city.things; t++) {
                if ((bits >> t & 1) != 0) {
                    sum += city.weight[t];
                }
            }
            return sum;
        }

        int oddest(int person) {
            int best = NONE;
            for (int t = 0; t < city.things; t++) {
                if (wearer[t] == person && (best == NONE || odd[t] > odd[best])) {
                    best = t;
                }
            }
            return best;
        }

        int richest() {
            int best = NONE;
            for (int p = 0; p < city.people; p++) {
                if (best == NONE || wealth(p) > wealth(best)) {
                    best = p;
                }
            }
            return best;
        }

        int mostAshamed() {
            int best = NONE;
            for (int p = 0; p < city.people; p++) {
                if (best == NONE || shame[p] > shame[best]) {
                    best = p;
                }
            }
            return best;
        }

        int shameOfAll() {
            int sum = 0;
            for (int p = 0; p < city.people; p++) {
                sum += shame[p];
            }
            return sum;
        }
    }

    /** The towns ahead of the latest acts, each as it was. */
    private static final class Acts {
        private static final int MOST = 40;

        private final int[] rows = new int[MOST * Town.ROW];
        private int first;
        int many;

        void clear() {
            first = 0;
            many = 0;
        }

        void copyFrom(Acts other) {
            System.arraycopy(other.rows, 0, rows, 0, rows.length);
            first = other.first;
            many = other.many;
        }

        void keep(Town town) {
            town.pack(rows, (first + many) % MOST * Town.ROW);
            if (many < MOST) {
                many++;
            } else {
                first = (first + 1) % MOST;
            }
        }

        int takeBack(Town town) {
            if (many < 1) {
                return NONE;
            }
            many--;
            town.unpack(rows, (first + many) % MOST * Town.ROW);
            return many;
        }
    }

    /** What is noted: that a thing is worn, or isn't, behind so many days. */
    private static final class Notes {
        static final int LAST_DAY_NOTED = 30;
        private static final int MOST = 8;

        int many;
        private final int[] thing = new int[MOST];
        private final int[] days = new int[MOST];
        // 1: it is worn then
        private final int[] worn = new int[MOST];

        boolean isFull() {
            return many >= MOST;
        }

        void clear() {
            many = 0;
        }

        void put(int ofThing, int behind, boolean isWorn) {
            if (isFull()) {
                return;
            }
            thing[many] = ofThing;
            days[many] = behind;
            worn[many] = isWorn ? 1 : 0;
            many++;
        }

        void copyFrom(Notes other) {
            System.arraycopy(other.thing, 0, thing, 0, MOST);
            System.arraycopy(other.days, 0, days, 0, MOST);
            System.arraycopy(other.worn, 0, worn, 0, MOST);
            many = other.many;
        }

        /** Lets days go by in the town, up to the last one noted, and tells whether all was so. */
        boolean hold(Town town) {
            int last = lastDay();
            for (int day = 0; day <= last; day++) {
                if (day > 0) {
                    town.passDay(false);
                }
                if (!holdBehind(town, day)) {
                    return false;
                }
            }
            return true;
        }

        private int lastDay() {
            int last = 0;
            for (int i = 0; i < many; i++) {
                last = Math.max(last, days[i]);
            }
            return last;
        }

        private boolean holdBehind(Town town, int day) {
            for (int i = 0; i < many; i++) {
                if (days[i] == day && (town.wearer[thing[i]] != NONE ? 1 : 0) != worn[i]) {
                    return false;
                }
            }
            return true;
        }
    }

    /** Tries days that may come on a town of its own. */
    private static final class Trials {
        private static final int DAYS_OF_GAME = 12;

        final Town town = new Town();
        private int seed;
        // gains of both players, by the couple of choices: twice the first one's and the other one's
        private final int[] gains = new int[4];
        private final int[] othersGains = new int[4];

        void start(Town now) {
            town.copyFrom(now);
        }

        Town behind(Town now, int days) {
            start(now);
            passDays(days);
            return town;
        }

        void passDays(int days) {
            for (int i = 0; i < days; i++) {
                town.passDay(false);
            }
        }

        /** Behind how many days who wears the thing owns it, or else has given it back. */
        int endOfWearing(int thing, boolean asOwner) {
            int who = town.wearer[thing];
            for (int k = 1; k <= MOST_DAYS && town.wearer[thing] != NONE; k++) {
                town.passDay(false);
                if (town.wearer[thing] == NONE) {
                    return (town.owner[thing] == who) == asOwner ? k : NONE;
                }
            }
            return NONE;
        }

        int bestPlace(Town now, int thing, boolean which) {
            int who = now.wearer[thing];
            int best = NONE;
            int soonest = NONE;
            for (int place = 0; who != NONE && place < now.city.places; place++) {
                start(now);
                town.standAlways(who, place);
                int behind = endOfWearing(thing, true);
                if (isSooner(behind, soonest)) {
                    best = place;
                    soonest = behind;
                }
            }
            return which ? best : soonest;
        }

        int bestThing(Town now, int person, boolean which) {
            int best = NONE;
            int soonest = NONE;
            for (int t = 0; t < now.city.things; t++) {
                if (!now.maySteal(person, t)) {
                    continue;
                }
                start(now);
                town.putOn(person, t);
                int behind = endOfWearing(t, true);
                if (isSooner(behind, soonest)) {
                    best = t;
                    soonest = behind;
                }
            }
            return which ? best : soonest;
        }

        private static boolean isSooner(int behind, int soonest) {
            return behind != NONE && (soonest == NONE || behind < soonest);
        }

        int daysToShame(int person, int much) {
            for (int k = 0; k <= MOST_DAYS; k++) {
                if (town.shame[person] >= much) {
                    return k;
                }
                town.passDay(false);
            }
            return NONE;
        }

        int neverWorn(int days) {
            int worn = town.wornBits();
            for (int i = 0; i < days; i++) {
                town.passDay(false);
                worn |= town.wornBits();
            }
            return (1 << town.city.things) - 1 & ~worn;
        }

        int inFog(Town now, int thing, int days, int tenths) {
            int likely = 0;
            for (int foggy = 0; foggy < 1 << days; foggy++) {
                start(now);
                int weight = 1;
                for (int i = 0; i < days; i++) {
                    boolean fog = (foggy >> i & 1) != 0;
                    weight *= fog ? tenths : 10 - tenths;
                    town.passDay(fog);
                }
                if (town.owner[thing] != now.owner[thing]) {
                    likely += weight;
                }
            }
            return likely;
        }

        void play(Town now, int person, int other) {
            for (int couple = 0; couple < 4; couple++) {
                start(now);
                if ((couple & 2) != 0) {
                    town.putOffAll(person);
                }
                if ((couple & 1) != 0) {
                    town.putOffAll(other);
                }
                passDays(DAYS_OF_GAME);
                gains[couple] = gain(person);
                othersGains[couple] = gain(other);
            }
        }

        private int gain(int person) {
            return 4 * Integer.bitCount(town.ownsBits(person)) - town.shame[person] / 8;
        }

        private boolean rests(int couple) {
            return gains[couple] >= gains[couple ^ 2] && othersGains[couple] >= othersGains[couple ^ 1];
        }

        int couplesAtRest() {
            int many = 0;
            for (int couple = 0; couple < 4; couple++) {
                if (rests(couple)) {
                    many++;
                }
            }
            return many;
        }

        int firstCoupleAtRest() {
            for (int couple = 0; couple < 4; couple++) {
                if (rests(couple)) {
                    return 10 * (couple >> 1) + (couple & 1);
                }
            }
            return NONE;
        }

        Town drawYears(Town now, int firstSeed, int days) {
            start(now);
            seed = firstSeed;
            for (int i = 0; i < days; i++) {
                int event = draw(5);
                if (town.city.people > 0 && town.city.things > 0) {
                    happen(event);
                }
                town.passDay(false);
            }
            return town;
        }

        private void happen(int event) {
            if (event == 0) {
                int person = draw(town.city.people);
                int thing = draw(town.city.things);
                if (town.maySteal(person, thing)) {
                    town.putOn(person, thing);
                }
            } else if (event == 1) {
                int thing = draw(town.city.things);
                town.odd[thing] = draw(10);
            } else if (event == 2) {
                town.shame[draw(town.city.people)] = 0;
            }
        }

        private int draw(int of) {
            seed = seed * 1103515245 + 12345;
            return of < 1 ? 0 : (seed >>> 16 & 32767) % of;
        }
    }

    /** People with another vanity, by which all that is noted would be so. */
    private static final class Vanities {
        private static final int MOST = MOST_PEOPLE * 9;
        private static final int DAYS_OF_ASKING = 10;

        int many;
        int bestThing;
        int unlikeOnes;
        // 10 by who, and the vanity
        private final int[] found = new int[MOST];
        private final int[] outcomes = new int[MOST * MOST_THINGS];

        void find(Town now, Notes notes, Trials trials) {
            many = 0;
            trials.start(now);
            boolean without = notes.hold(trials.town);
            for (int p = 0; p < now.city.people; p++) {
                // who wears nothing now wears nothing on days to come, so that one's vanity is never asked for
                boolean matters = now.wearsBits(p) != 0;
                for (int vanity = 0; vanity <= 9; vanity++) {
                    if (vanity == now.vanity[p] || many >= MOST) {
                        continue;
                    }
                    if (matters) {
                        trials.start(now);
                        trials.town.vanity[p] = vanity;
                    }
                    if (matters ? notes.hold(trials.town) : without) {
                        found[many] = 10 * p + vanity;
                        many++;
                    }
                }
            }
        }

        int first() {
            return many > 0 ? found[0] : NONE;
        }

        void compare(Town now, Trials trials) {
            for (int i = 0; i < many; i++) {
                trials.start(now);
                trials.town.vanity[found[i] / 10] = found[i] % 10;
                trials.passDays(DAYS_OF_ASKING);
                keepOutcomes(i, trials.town);
            }
            bestThing = NONE;
            unlikeOnes = 0;
            for (int t = 0; t < now.city.things; t++) {
                int unlike = unlikeOutcomes(t);
                if (unlike > unlikeOnes) {
                    bestThing = t;
                    unlikeOnes = unlike;
                }
            }
        }

        private void keepOutcomes(int which, Town town) {
            for (int t = 0; t < MOST_THINGS; t++) {
                outcomes[which * MOST_THINGS + t] = town.seen[t] << 4 | town.wearer[t] + 1;
            }
        }

        private int unlikeOutcomes(int thing) {
            int unlike = 0;
            for (int i = 0; i < many; i++) {
                if (isNewOutcome(i, thing)) {
                    unlike++;
                }
            }
            return unlike;
        }

        private boolean isNewOutcome(int which, int thing) {
            for (int i = 0; i < which; i++) {
                if (outcomes[i * MOST_THINGS + thing] == outcomes[which * MOST_THINGS + thing]) {
                    return false;
                }
            }
            return true;
        }
    }

    /** Who is bound to whom and to which places: what needs no day to go by. */
    private static final class Ties {
        private static final int TOO_MUCH = 1000000;

        private final int[] rows = new int[MOST_PEOPLE];
        // the least shame that is left, by the people who have a thing already
        private final int[] left = new int[1 << MOST_PEOPLE];
        private final int[] wornThings = new int[MOST_THINGS];
        private int wornMany;

        int rings(Town now) {
            int bits = 0;
            for (int p = 0; p < now.city.people; p++) {
                bits |= cameTo(now, p) & 1 << p;
            }
            return bits;
        }

        int cameTo(Town now, int person) {
            for (int p = 0; p < now.city.people; p++) {
                rows[p] = ownersOf(now, now.wearsBits(p));
            }
            int reached = rows[person];
            for (int round = 0; round < now.city.people; round++) {
                for (int p = 0; p < now.city.people; p++) {
                    if ((reached >> p & 1) != 0) {
                        reached |= rows[p];
                    }
                }
            }
            return reached;
        }

        private static int ownersOf(Town now, int things) {
            int bits = 0;
            for (int t = 0; t < now.city.things; t++) {
                if ((things >> t & 1) != 0) {
                    bits |= 1 << now.owner[t];
                }
            }
            return bits;
        }

        int fewestPlaces(Town now, int days) {
            for (int p = 0; p < now.city.people; p++) {
                rows[p] = now.wearsBits(p) == 0 ? NONE : placesOf(now, p, days);
            }
            int all = (1 << now.city.places) - 1;
            int best = all;
            for (int places = 0; places <= all; places++) {
                if (Integer.bitCount(places) < Integer.bitCount(best) && meetsAll(now, places)) {
                    best = places;
                }
            }
            return best;
        }

        private static int placesOf(Town now, int person, int days) {
            int bits = 0;
            for (int k = 0; k < days; k++) {
                bits |= 1 << now.placeOn(person, now.day + k);
            }
            return bits;
        }

        private boolean meetsAll(Town now, int places) {
            for (int p = 0; p < now.city.people; p++) {
                // NONE stands for one who wears nothing and needn't be met
                if (rows[p] != NONE && (rows[p] & places) == 0) {
                    return false;
                }
            }
            return true;
        }

        int busiest(Town now, int days) {
            int best = 0;
            int most = 0;
            for (int place = 0; place < now.city.places; place++) {
                int many = visits(now, place, days);
                if (many > most) {
                    best = place;
                    most = many;
                }
            }
            return best;
        }

        private static int visits(Town now, int place, int days) {
            int many = 0;
            for (int p = 0; p < now.city.people; p++) {
                for (int k = 0; k < days; k++) {
                    if (now.placeOn(p, now.day + k) == place) {
                        many++;
                    }
                }
            }
            return many;
        }

        int leastShame(Town now, int thing) {
            listWorn(now);
            fillLeft(now);
            if (left[0] >= TOO_MUCH) {
                return REFUSED;
            }
            return thing == NONE ? left[0] : goesTo(now, thing);
        }

        private void listWorn(Town now) {
            wornMany = 0;
            for (int t = 0; t < now.city.things; t++) {
                if (now.wearer[t] != NONE) {
                    wornThings[wornMany] = t;
                    wornMany++;
                }
            }
        }

        /** Things go in their order, so as many are gone as there are people who have one. */
        private void fillLeft(Town now) {
            for (int taken = (1 << now.city.people) - 1; taken >= 0; taken--) {
                int next = Integer.bitCount(taken);
                left[taken] = next >= wornMany ? 0 : TOO_MUCH;
                for (int p = 0; next < wornMany && p < now.city.people; p++) {
                    if (canGo(now, wornThings[next], p, taken)) {
                        left[taken] = Math.min(left[taken], costWith(now, wornThings[next], p, taken));
                    }
                }
            }
        }

        private static boolean canGo(Town now, int thing, int person, int taken) {
            return now.owner[thing] != person && (taken >> person & 1) == 0;
        }

        private int costWith(Town now, int thing, int person, int taken) {
            return Math.max(0, now.odd[thing] - now.vanity[person]) + left[taken | 1 << person];
        }

        private int goesTo(Town now, int thing) {
            int taken = 0;
            for (int i = 0; i < wornMany; i++) {
                int who = firstOf(now, wornThings[i], taken);
                if (who == NONE || wornThings[i] == thing) {
                    return who;
                }
                taken |= 1 << who;
            }
            return NONE;
        }

        private int firstOf(Town now, int thing, int taken) {
            for (int p = 0; p < now.city.people; p++) {
                if (canGo(now, thing, p, taken) && costWith(now, thing, p, taken) == left[taken]) {
                    return p;
                }
            }
            return NONE;
        }
    }
}
