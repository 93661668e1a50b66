/** What each promise says of its own answers: which what asks for which, when there is none, and what is kept or left. */
public final class BoundsOfPromisesTest extends Checks {
    private static final String TWO = "person 0 0;person 0 0;";
    /** Person 0 wears the thing of person 1, who always looks; neither has shame by it. */
    private static final String SEEN = "person 9 0;person 9 0;thing 1 0 1 by 0;";
    /** Person 0 wears the thing of person 1, and nobody ever looks. */
    private static final String ALONE = "person 0 0;person 0 1;thing 1 0 1 by 0;";

    public static void main(String[] args) {
        ofTerms();
        ofActs();
        ofAsking();
        ofGuesses();
        ofImages();
        finish("BoundsOfPromisesTest");
    }

    private static void ofTerms() {
        sentence("An object is used for at most 512 calls after it has been made;", BoundsOfPromisesTest::manyCalls);
        sentence("`NONE = -1`: There is none; nobody.", BoundsOfPromisesTest::constantNone);
        sentence("The tape's first n bytes", BoundsOfPromisesTest::nothingBehindTheFirst);
        sentence("EXPR: AND ('or' AND)*. AND: NOT ('and' NOT)*.", BoundsOfPromisesTest::orAndAnd);
        sentence("SUM: PRODUCT (('+' | '-') PRODUCT)*. PRODUCT: PART (('*' | '/') PART)*. PART: NUMBER | VALUE | '(' EXPR ')'.",
            BoundsOfPromisesTest::sumsAndParts);
        sentence("are a CITY, all anew:", BoundsOfPromisesTest::rulesAnew);
        sentence("'owner' (1, if the OWNER is one of those who look, else 0)", BoundsOfPromisesTest::ownerLooks);
        sentence("A DAY: THING by THING that is WORN:", BoundsOfPromisesTest::thingByThing);
        sentence("0 WEIGHT, 1 ODD, 2 the OWNER, 3 who WEARS it (NONE: it isn't WORN), 4 its DAYS,", BoundsOfPromisesTest::thing);
    }

    private static void ofActs() {
        sentence("DAYS go by: the DAY.", BoundsOfPromisesTest::days);
        sentence("STEALS: who wore it (NONE: it wasn't WORN).", BoundsOfPromisesTest::steal);
        sentence("BACK: its DAYS as they were.", BoundsOfPromisesTest::back);
        sentence("The i-th PLACE of a WALK: as it was.", BoundsOfPromisesTest::walk);
        sentence("DYED: ODD as it was.", BoundsOfPromisesTest::dye);
    }

    private static void ofAsking() {
        sentence("THEN: who WEARS it (what 0; NONE), the OWNER (1), its DAYS (2).", BoundsOfPromisesTest::then);
        sentence("THEN: SHAME (what 0), WEIGHT that one owns (1).", BoundsOfPromisesTest::later);
        sentence("ONE'S OWN (what 0), GIVEN BACK (1); NONE: none, it isn't WORN.", BoundsOfPromisesTest::when);
        sentence("RICHEST (what 0; NONE), MOST ASHAMED (1; NONE), WORN (2; bits), CHANGED (3).", BoundsOfPromisesTest::all);
        sentence("PLACE (what 0), who LOOKS (1; bits).", BoundsOfPromisesTest::where);
        sentence("TO STAND: which (what 0), behind how many DAYS (1); NONE: none, it isn't WORN.", BoundsOfPromisesTest::toStand);
        sentence("TO STEAL: which (what 0), behind how many DAYS (1); NONE: none.", BoundsOfPromisesTest::toSteal);
        sentence("A WATCH: the fewest PLACES, so that each one who WEARS something now is at one of them",
            BoundsOfPromisesTest::watch);
        sentence("LEAST SHAME: how much (thing NONE), to whom a THING goes (NONE: it isn't WORN);", BoundsOfPromisesTest::least);
        sentence("-2, whichever the THING is (also one that isn't WORN, and thing NONE): more THINGS.",
            BoundsOfPromisesTest::leastOfTooMany);
        sentence("WHOSE: a PERSON is AFTER another one, if he WEARS a THING of that one:", BoundsOfPromisesTest::whose);
        sentence("FACED; NONE: none, it isn't WORN.", BoundsOfPromisesTest::faced);
        sentence("BUSIEST (what 0), UNSEEN (1; bits).", BoundsOfPromisesTest::walks);
        sentence("SHAMED; NONE: none.", BoundsOfPromisesTest::shamed);
    }

    private static void ofGuesses() {
        sentence("NOTED: how much is.", BoundsOfPromisesTest::note);
        sentence("VAIN: how many (what 0), the first (1; NONE: none), whether without (2).", BoundsOfPromisesTest::vain);
        sentence("ASK NEXT (what 0; NONE), how many (1; 0: none).", BoundsOfPromisesTest::ask);
        sentence("how likely a THING has another OWNER behind them than now: as so many of 10 to the power of these DAYS.",
            BoundsOfPromisesTest::anotherOwner);
        sentence("A GAME: how many couples rest (what 0), the first (1; NONE: none);", BoundsOfPromisesTest::game);
        sentence("the first (10 by the first one's and the other one's); none, if one WEARS nothing.",
            BoundsOfPromisesTest::firstCouple);
        sentence("YEARS: how often (what 0), SHAME (1), how many WORN (2).", BoundsOfPromisesTest::years);
        sentence("A seed becomes itself times 1103515245 and 12345 (an int that wraps);", BoundsOfPromisesTest::seeds);
        sentence("a DRAW of n is its bits 16 to 30 MOD n then.", BoundsOfPromisesTest::bitsOfADraw);
    }

    private static void ofImages() {
        sentence("The DAY, who WEARS what, OWNERS, DAYS of THINGS, ODD, SHAME, WALKS, ACTS and what is NOTED",
            BoundsOfPromisesTest::keptInAnImage);
        sentence("ACTS and what is NOTED are kept as an image,", BoundsOfPromisesTest::notInAnImage);
    }

    /** The 512th call answers as the first one would, whatever the 511 ahead were. */
    private static void manyCalls() {
        String text = times("person 0 0 1;", 4) + times("person 9 1;", 4) + times("thing 30 9 7 by 0;", 9) + "thing 1 0 0 by 7;";
        WornThings x = new WornThings();
        tell(x, text);
        int calls = (text.length() + 19) / 20 + 1;
        for (; calls < 511; calls++) {
            int n = calls;
            due("no call throws", thrown(() -> n % 3 == 0 ? x.dye(n % 10, n % 7) : n % 3 == 1 ? x.days(1 + n % 20) : x.ask(0)), 0);
        }
        due("the latest acts", x.count(8), 40);
        WornThings y = new WornThings();
        for (int i = 0; i < 511; i++) {
            y.feed(0, 0, 0, 0, 0);
        }
        due("the 512th", y.count(10), 700);
    }

    private static void constantNone() {
        due("NONE", WornThings.NONE, -1);
        due("there is none", new WornThings().undo(), WornThings.NONE);
        due("nobody", of(TWO + "thing 1 0 1;").thing(0, 3), WornThings.NONE);
    }

    /** What stands on the tape behind the n-th byte, or stood there once, counts for nothing. */
    private static void nothingBehindTheFirst() {
        WornThings x = new WornThings();
        put(x, "term 12;");
        due("a number is cut", x.city(6), 1);
        due("it ends too soon there", x.fault(), 6);
        put(x, "term 12;");
        due("behind both digits", x.city(7), 1);
        due("it ends too soon there", x.fault(), 7);
        put(x, "term 12;");
        due("all of it", x.city(8), 0);
        due("term", x.count(3), 12);
        put(x, "terms");
        due("a word is cut", x.city(4), 1);
        due("it ends too soon there", x.fault(), 4);
        put(x, "person 0 0;person 0 0;thing 1 0 1 by 0;");
        due("a word is cut to another one", x.city(35), 1);
        due("that can't stand there", x.fault(), 34);
        put(x, "term 00012;");
        due("four of five digits", x.city(9), 1);
        due("it ends too soon there", x.fault(), 9);
        put(x, "term 00012;");
        due("all five digits", x.city(10), 2);
        due("the number", x.fault(), 5);
        // the tape of now is shorter than the one that was
        put(x, "term 5;" + times("x", 33));
        due("all", x.city(40), 1);
        put(x, "shames 1+2*3" + times(" ", 8));
        due("what stood there once", x.city(20), 1);
        due("it ends too soon", x.fault(), 20);
    }

    private static void orAndAnd() {
        gives("1 or 0 and 0", 1);
        gives("(1 or 0) and 0", 0);
        gives("0 and 0 or 1", 1);
        gives("0 and (0 or 1)", 0);
        gives("not 0 or 1", 1);
        gives("not (0 or 1)", 0);
        gives("not 0 and 0", 0);
        gives("not (0 and 0)", 1);
        gives("not 1 or 1", 1);
        gives("not 2<1", 1);
        gives("not 2=2 or 0", 0);
        gives("1 and not 0 and not 0", 1);
        gives("1 and not 0 and not 1", 0);
        gives("0 or not 1 or not 0", 1);
        of("shames 1" + times(" or 1", 100) + ";");
        of("shames 1" + times(" and 1", 100) + ";");
        fault("shames 1 or;", 1, 11);
        fault("shames 1 or or 1;", 3, 12);
        fault("shames or 1;", 3, 7);
        fault("shames 1 or and 1;", 3, 12);
        fault("shames 1 orr 1;", 1, 9);
        fault("shames 1 an 1;", 1, 9);
    }

    private static void sumsAndParts() {
        gives("2+3*4-10/5", 12);
        gives("(2+3)*4-10/5", 18);
        gives("2+3*(4-1)", 11);
        gives("20-2*3*2", 8);
        gives("odd*weight", 10);
        gives("weight-odd*vanity+eyes", 1);
        gives("((odd))", 2);
        gives("1+1=2", 1);
        gives("2*3<2+4", 0);
        gives("2*3<2+5", 1);
        fault("shames 1+;", 1, 9);
        fault("shames 1*/2;", 1, 9);
        fault("shames -1;", 1, 7);
        fault("shames 1--1;", 1, 9);
        fault("shames (1+2;", 1, 11);
        fault("shames 1+2);", 1, 10);
        fault("shames not 1);", 1, 12);
        fault("shames 1 or 2<3);", 1, 15);
        fault("shames (1+2));", 1, 12);
        fault("shames (1))+(1;", 1, 10);
        fault("shames (1+);", 1, 10);
        fault("shames 1(2);", 1, 8);
        fault("shames odd(2);", 1, 10);
    }

    /** Neither a rule that held ahead, nor one that was not read to its end, is left of. */
    private static void rulesAnew() {
        String worn = TWO + "thing 1 0 1 by 0;shames ";
        WornThings x = new WornThings();
        due("ends behind not", tell(x, "shames not"), 1);
        due("a rule", tell(x, worn + "3;"), 0);
        due("what it gives", x.thing(0, 5), 3);
        due("ends behind a test", tell(x, "shames 1<"), 1);
        due("a test", tell(x, worn + "1<2;"), 0);
        due("what it gives", x.thing(0, 5), 1);
        due("ends within others", tell(x, "shames 1-(2-(3-(4-("), 1);
        fault("shames 1);", 1, 8);
        due("a parenthesis too much", tell(x, "shames 1);"), 1);
        due("its place", x.fault(), 8);
        due("a rule", tell(x, worn + "9-4-3;"), 0);
        due("what it gives", x.thing(0, 5), 2);
        // long rules, again and again: there is room for each
        String longest = worn + "19" + times("-0+0", 155) + ";";
        for (int i = 0; i < 12; i++) {
            due("a long one", tell(x, longest), 0);
            due("what it gives", x.thing(0, 5), 19);
            due("a long one that ends too soon", tell(x, longest.substring(0, longest.length() - 2)), 1);
        }
        due("a short one, behind long ones", tell(x, worn + "7;"), 0);
        due("what it gives", x.thing(0, 5), 7);
        due("another short one", tell(x, worn + "8;returns 1;"), 0);
        due("what it gives", x.thing(0, 5), 8);
        due("what the other one gives", x.when(0, 1), 1);
        due("a short one again", tell(x, worn + "6;"), 0);
        due("what it gives", x.thing(0, 5), 6);
        for (String rule : new String[] {"not 3", "not 3", "5", "5", "not 0", "4+4", "2", "2"}) {
            due("one by one", tell(x, worn + rule + ";"), 0);
            due("what " + rule + " gives", x.thing(0, 5), of(worn + rule + ";").thing(0, 5));
        }
        due("what the last one gives", x.thing(0, 5), 2);
    }

    private static void ownerLooks() {
        String three = "person 0 0;person 0 0 1;person 0 0;";
        WornThings x = of(three + "thing 1 0 1 by 0;shames owner;");
        due("among those who look", x.thing(0, 5), 1);
        x.days(1);
        due("elsewhere", x.thing(0, 5), 0);
        due("blind", of("person 0 0;blind 0 0;person 0 0;thing 1 0 1 by 0;shames owner;").thing(0, 5), 0);
        due("the last one", of(times("person 0 0;", 8) + "thing 1 0 7 by 0;shames owner;").thing(0, 5), 1);
        due("others alone", of("person 0 0;person 0 1;person 0 0;thing 1 0 1 by 0;shames owner;").thing(0, 5), 0);
    }

    private static void thingByThing() {
        // 20 and 20 and 20 and 20 and 19 are 99; the thing that isn't worn brings nothing
        WornThings x = of("person 0 0;person 0 1;" + times("thing 1 9 1 by 0;", 4) + "thing 1 9 1;thing 1 8 1 by 0;"
            + "shames odd*10-60-(odd=8);returns 0;");
        x.days(1);
        due("five of six", x.person(0, 2), 99);
        // each is one's own by its own DAYS
        WornThings y = of(SEEN + "thing 1 0 1;term 2;");
        y.days(1);
        y.steal(0, 1);
        y.days(1);
        due("the first one", y.thing(0, 2), 0);
        due("not the second one", y.thing(1, 2), 1);
        due("one day", y.thing(1, 4), 1);
        due("nothing is worn, so nothing goes on", of(TWO + "thing 1 9 1;shames 20;").later(0, 100, 0), 0);
    }

    private static void thing() {
        WornThings x = busy();
        int[][] want = {{5, 4, 1, 0, 1, 3}, {10, 3, 0, 2, 0, 1}, {3, 2, 2, 1, 1, 0}};
        for (int t = 0; t < 3; t++) {
            for (int what = 0; what <= 5; what++) {
                due("thing " + t + " " + what, x.thing(t, what), want[t][what]);
            }
            int n = t;
            none("what -1", () -> x.thing(n, -1));
            none("what 6", () -> x.thing(n, 6));
        }
        x.back(0);
        due("nobody wears it", x.thing(0, 3), -1);
        due("its days", x.thing(0, 4), 0);
        due("no shame", x.thing(0, 5), 0);
    }

    private static void days() {
        WornThings x = of(SMALL);
        due("1", x.days(1), 1);
        due("21", x.days(20), 21);
        due("the day", x.count(4), 21);
        due("refused", x.days(21), -1);
        due("the day stays", x.count(4), 21);
        due("22", x.days(1), 22);
    }

    private static void steal() {
        WornThings x = of("person 0 0;person 0 0;person 0 0;thing 1 0 0 by 1;thing 1 0 0;");
        due("it wasn't worn", x.steal(2, 1), -1);
        due("the second one wore it", x.steal(2, 0), 1);
        due("the third one wore it", x.steal(1, 0), 2);
        x.back(0);
        due("not any more", x.steal(1, 0), -1);
        WornThings y = of("person 0 0;person 0 0;person 0 0;thing 1 0 2 by 0;");
        due("the first one wore it", y.steal(1, 0), 0);
    }

    private static void back() {
        WornThings x = of(SEEN + "term 99;");
        due("none yet", x.back(0), 0);
        x.undo();
        x.days(20);
        x.days(20);
        x.days(20);
        x.days(20);
        x.days(18);
        due("98", x.back(0), 98);
        due("it isn't worn", x.back(0), -1);
        due("without any eyes", of(ALONE).back(0), 0);
    }

    private static void walk() {
        WornThings x = of("places 6;person 0 5 4 3 2 1 0;person 0 3;");
        for (int i = 0; i < 6; i++) {
            due("as it was", x.walk(0, i, i == 0 ? 0 : 5), 5 - i);
        }
        due("the other one's", x.walk(1, 0, 2), 3);
        due("as it is", x.walk(1, 0, 2), -1);
        due("none is left as it was", x.walk(0, 5, 0), 5);
    }

    private static void dye() {
        WornThings x = of(TWO + "thing 1 7 0;thing 1 9 1 by 0;");
        due("as it was", x.dye(0, 0), 7);
        due("as it was", x.dye(1, 8), 9);
        due("as it was", x.dye(0, 3), 0);
        due("as it was", x.dye(1, 1), 8);
        x.undo();
        due("as it was once", x.dye(1, 2), 8);
    }

    private static void then() {
        WornThings x = of(SEEN + "thing 1 0 0;term 3;");
        due("who wears it", x.then(0, 2, 0), 0);
        due("the owner", x.then(0, 2, 1), 1);
        due("its days", x.then(0, 2, 2), 2);
        due("nobody", x.then(0, 3, 0), -1);
        due("the owner", x.then(0, 3, 1), 0);
        due("its days", x.then(0, 3, 2), 0);
        due("never worn", x.then(1, 50, 0), -1);
        due("its owner", x.then(1, 50, 1), 0);
        WornThings back = of(SEEN + "term 5;returns day=2;");
        due("worn", back.then(0, 2, 0), 0);
        due("given back", back.then(0, 3, 0), -1);
        due("the owner stays", back.then(0, 3, 1), 1);
        due("its days", back.then(0, 3, 2), 0);
    }

    private static void later() {
        WornThings x = of("person 0 0;person 0 0;thing 8 5 1 by 0;thing 30 0 0;term 2;");
        due("shame now", x.later(0, 0, 0), 0);
        due("shame", x.later(0, 1, 0), 6);
        due("shame", x.later(0, 2, 0), 10);
        due("shame", x.later(0, 3, 0), 8);
        due("weight", x.later(0, 1, 1), 30);
        due("weight", x.later(0, 2, 1), 38);
        due("weight of the other one", x.later(1, 1, 1), 8);
        due("weight of the other one", x.later(1, 2, 1), 0);
        due("shame of the other one", x.later(1, 2, 0), 0);
    }

    private static void when() {
        WornThings x = of(SEEN + "thing 1 0 1;term 3;");
        due("own", x.when(0, 0), 3);
        due("never given back", x.when(0, 1), -1);
        due("not worn", x.when(1, 0), -1);
        due("not worn", x.when(1, 1), -1);
        WornThings y = of(SEEN + "term 3;returns day=1;");
        due("never own", y.when(0, 0), -1);
        due("given back", y.when(0, 1), 2);
        WornThings z = of(SEEN + "term 3;returns day=2;");
        due("own on the very day", z.when(0, 0), 3);
        due("so not given back", z.when(0, 1), -1);
        WornThings w = of(ALONE + "shames 0;");
        due("neither", w.when(0, 0) + w.when(0, 1), -2);
    }

    private static void all() {
        WornThings x = of("person 0 0;person 0 0;thing 8 5 1 by 0;thing 5 0 0;thing 1 9 0;term 2;");
        due("richest", x.all(1, 0), 1);
        due("richest", x.all(2, 0), 0);
        due("most ashamed of like ones", x.all(0, 1), 0);
        x.steal(1, 2);
        due("most ashamed", x.all(1, 1), 1);
        due("worn", x.all(0, 2), 5);
        due("worn", x.all(2, 2), 0);
        due("changed", x.all(1, 3), 0);
        due("changed", x.all(2, 3), 2);
        due("changed no more", x.all(100, 3), 2);
        for (int what = 0; what <= 1; what++) {
            due("nobody", new WornThings().all(50, what), -1);
            due("one without anything", of("person 0 0;").all(50, what), 0);
        }
    }

    private static void where() {
        WornThings x = of("person 0 0 1;person 0 0;blind 0 1;person 0 1;");
        due("place", x.where(0, 1, 0), 0);
        due("place", x.where(0, 2, 0), 1);
        due("who looks", x.where(0, 1, 1), 2);
        due("who looks", x.where(0, 2, 1), 8);
        due("who looks at the blind", x.where(2, 2, 1), 9);
    }

    private static void toStand() {
        WornThings x = of("person 9 0;person 9 1;thing 1 0 1 by 0;thing 1 0 0;term 4;");
        due("which", x.toStand(0, 0), 1);
        due("behind how many", x.toStand(0, 1), 4);
        due("not worn", x.toStand(1, 0), -1);
        due("not worn", x.toStand(1, 1), -1);
        WornThings blind = of("person 9 0;blind 9 1;thing 1 0 1 by 0;");
        due("none", blind.toStand(0, 0), -1);
        due("none", blind.toStand(0, 1), -1);
        WornThings back = of("person 9 0;person 9 1;thing 1 0 1 by 0;term 4;returns day=2;");
        due("given back ahead of it", back.toStand(0, 0), -1);
        // its DAYS so far count
        WornThings y = of("person 9 0;person 9 0 0 1;thing 1 0 1 by 0;term 3;");
        y.days(2);
        due("which", y.toStand(0, 0), 1);
        due("behind one", y.toStand(0, 1), 1);
    }

    private static void toSteal() {
        WornThings x = of("person 9 0;person 9 0 1;thing 1 0 0;thing 1 9 1;thing 1 0 1;term 2;returns 8<shame;shames odd;");
        due("which", x.toSteal(0, 0), 2);
        due("behind how many", x.toSteal(0, 1), 3);
        due("of the other one", x.toSteal(1, 0), 0);
        due("none to steal", of("person 0 0;thing 1 0 0;").toSteal(0, 0), -1);
        due("none to steal", of("person 0 0;thing 1 0 0;").toSteal(0, 1), -1);
        due("never own", of("person 0 0;person 0 1;thing 1 0 1;").toSteal(0, 0), -1);
        due("never own", of("person 0 0;person 0 1;thing 1 0 1;").toSteal(0, 1), -1);
        x.toSteal(0, 0);
        due("nothing is stolen", x.count(5), 0);
    }

    private static void watch() {
        String three = "places 4;person 0 0 3;person 0 1 3;person 0 2 3;";
        String worn = "thing 1 0 1 by 0;thing 1 0 2 by 1;thing 1 0 0 by 2;";
        due("each at a place of one's own", of(three + worn).watch(1), 7);
        due("all at one place", of(three + worn).watch(2), 8);
        due("who wears nothing isn't met", of(three + "thing 1 0 1 by 0;thing 1 0 2 by 1;").watch(1), 3);
        due("one alone", of(three + "thing 1 0 0 by 2;").watch(1), 4);
        due("of like ones the least", of(three + "thing 1 0 0 by 2;").watch(2), 4);
        WornThings x = of(three + worn);
        x.days(1);
        due("from now", x.watch(1), 8);
        x.back(0);
        x.back(1);
        x.back(2);
        due("nobody any more", x.watch(1), 0);
    }

    private static void least() {
        WornThings x = of("person 1 0;person 2 0;person 4 0;thing 1 9 0 by 1;thing 1 5 1 by 0;thing 1 9 0;");
        // 9 less 2 and 5 less 4 are 8 together, 9 less 4 and 5 less 1 are 9
        due("how much", x.least(-1), 8);
        due("the first goes to", x.least(0), 1);
        due("the second goes to", x.least(1), 2);
        due("it isn't worn", x.least(2), -1);
        x.dye(1, 4);
        due("how much", x.least(-1), 7);
        due("the first goes to", x.least(0), 1);
        none("no such thing", () -> x.least(3));
        none("no such thing", () -> x.least(-2));
    }

    private static void leastOfTooMany() {
        WornThings x = of(TWO + "thing 1 0 1 by 0;thing 1 0 1 by 0;thing 1 0 0;");
        for (int t = -1; t <= 2; t++) {
            due("-2 for " + t, x.least(t), -2);
        }
        none("no such thing", () -> x.least(3));
        x.back(0);
        due("how much", x.least(-1), 0);
        due("not worn", x.least(0), -1);
        due("to whom", x.least(1), 0);
        due("not worn", x.least(2), -1);
    }

    private static void whose() {
        WornThings x = of("person 0 0;person 0 0;person 0 0;thing 1 0 1 by 0;thing 1 0 2;");
        due("one step", x.whose(0), 2);
        due("who wears nothing", x.whose(1), 0);
        x.steal(0, 1);
        due("of two", x.whose(0), 6);
        x.back(0);
        due("of the other one", x.whose(0), 4);
        x.back(1);
        due("nobody", x.whose(0), 0);
        none("no such person", () -> x.whose(3));
    }

    private static void faced() {
        WornThings x = of("person 0 0;person 0 1 1 0;thing 1 0 1 by 0;thing 1 0 1;");
        due("in the third", x.faced(0), 3);
        due("it isn't worn", x.faced(1), -1);
        x.back(0);
        due("it isn't any more", x.faced(0), -1);
        due("none", of(ALONE).faced(0), -1);
    }

    private static void walks() {
        WornThings x = of("person 0 2;person 0 2 1;person 0 1 1;thing 1 0 1 by 0;thing 1 0 1 by 2;");
        due("busiest", x.walks(1, 0), 2);
        due("busiest of two, of like ones the least", x.walks(2, 0), 1);
        due("unseen", x.walks(1, 1), 4);
        due("unseen in two", x.walks(2, 1), 0);
        x.days(1);
        due("busiest", x.walks(1, 0), 1);
        due("unseen", x.walks(1, 1), 1);
    }

    private static void shamed() {
        WornThings x = of(ALONE + "shames 9;returns 0;");
        due("9 behind 1", x.shamed(0, 9), 1);
        due("10 behind 2", x.shamed(0, 10), 2);
        due("99 behind 11", x.shamed(0, 99), 11);
        due("none", x.shamed(1, 1), -1);
        // 20 less 2 on the day on which it is one's own, and less on each day from then on
        WornThings y = of(SEEN + "term 1;shames 20;");
        due("18", y.shamed(0, 18), 1);
        due("never 19", y.shamed(0, 19), -1);
    }

    private static void note() {
        WornThings x = of(SMALL);
        due("one", x.note(0, 0, true), 1);
        due("the same again is one more", x.note(0, 0, true), 2);
        due("what can't be beside it, too", x.note(0, 0, false), 3);
        due("refused", x.note(0, 31, false), -1);
        due("four", x.note(2, 30, false), 4);
        due("noted", x.count(9), 4);
        x.days(1);
        x.undo();
        due("undo leaves it", x.count(9), 4);
        due("undo leaves it", x.undo(), -1);
        due("undo leaves it", x.count(9), 4);
    }

    private static void vain() {
        WornThings x = of("person 5 0;person 0 1;thing 1 0 1 by 0;shames 0;returns vanity<2 and day=3;");
        x.note(0, 4, false);
        due("0 and 1", x.vain(0), 2);
        due("the first", x.vain(1), 0);
        due("not without", x.vain(2), 0);
        x.note(0, 3, false);
        due("none", x.vain(0), 0);
        due("none", x.vain(1), -1);
        x.forget();
        x.note(0, 30, true);
        due("all others of both", x.vain(0), 16);
        due("the first", x.vain(1), 2);
        due("so without", x.vain(2), 1);
    }

    private static void ask() {
        WornThings x = of("person 5 0;person 0 1;thing 1 0 0;thing 1 0 1 by 0;shames 0;returns vanity=9;");
        due("which", x.ask(0), 1);
        due("how many", x.ask(1), 2);
        x.note(1, 1, false);
        due("by vanity 9 alone", x.ask(1), 1);
        due("of like ones the least", x.ask(0), 0);
        x.note(1, 1, true);
        due("none", x.ask(0), -1);
        due("none", x.ask(1), 0);
    }

    private static void anotherOwner() {
        WornThings x = of(SEEN + "thing 1 0 1;term 2;");
        due("of 10", x.fog(0, 1, 0), 0);
        due("of 100", x.fog(0, 2, 0), 100);
        due("of 1000", x.fog(0, 3, 0), 1000);
        due("of 10000", x.fog(0, 4, 0), 10000);
        due("of 100000", x.fog(0, 5, 0), 100000);
        due("two clear ones of two", x.fog(0, 2, 3), 49);
        // two or three clear ones of three: 343 and 3 by 147
        due("of three", x.fog(0, 3, 3), 784);
        due("always fog", x.fog(0, 5, 10), 0);
        due("not worn", x.fog(1, 5, 0), 0);
        x.days(1);
        due("one more clear day", x.fog(0, 1, 3), 7);
        x.days(1);
        due("the owner of now", x.fog(0, 5, 0), 0);
    }

    private static void game() {
        WornThings x = of("person 9 0;person 9 0;person 0 0;thing 1 0 1 by 0;thing 1 0 0 by 1;term 12;");
        due("how many", x.game(0, 1, 0), 1);
        due("the first", x.game(0, 1, 1), 0);
        due("one wears nothing", x.game(0, 2, 0), -1);
        due("one wears nothing", x.game(0, 2, 1), -1);
        due("one wears nothing", x.game(2, 1, 0), -1);
        due("one wears nothing", x.game(2, 1, 1), -1);
    }

    private static void firstCouple() {
        // the first one has 12 of shame behind 12 days, and none if all is given back; the other one has none at all
        String both = "person 0 0;person 9 1;thing 1 1 1 by 0;thing 1 1 0 by 1;returns 0;term 99;";
        WornThings x = of(both);
        due("1 and 0", x.game(0, 1, 1), 10);
        due("0 and 1", x.game(1, 0, 1), 1);
        due("two", x.game(0, 1, 0), 2);
        due("1 and 1", of(both.replace("person 9", "person 0")).game(0, 1, 1), 11);
        due("0 and 0", of(both.replace("person 0", "person 9")).game(0, 1, 1), 0);
        x.back(1);
        due("the other one wears nothing", x.game(0, 1, 1), -1);
        due("the first one wears nothing", x.game(1, 0, 1), -1);
    }

    private static void years() {
        WornThings x = of("person 0 0;person 0 0;thing 1 5 1 by 0;term 2;");
        // by seed 1 the DRAWS of 5 are 3, 3 and 3: nothing but the DAYS
        due("how often", x.years(1, 1, 0), 0);
        due("how often", x.years(1, 2, 0), 1);
        due("how often", x.years(1, 3, 0), 1);
        due("shame", x.years(1, 1, 1), 6);
        due("shame", x.years(1, 2, 1), 10);
        due("shame", x.years(1, 3, 1), 8);
        due("worn", x.years(1, 1, 2), 1);
        due("worn", x.years(1, 2, 2), 0);
        due("nothing changes", x.count(4) + x.count(7) + x.count(8), 0);
    }

    /** By seed 1: 16838, 5758, 10113, 17515, 31051, 5627, 23010, 7419, 16212, 4086, 2749, 12767, 9084. */
    private static void seeds() {
        // 3, 3, 3: nothing; 0: person 31051 MOD 3 = 1 steals thing 5627 MOD 2 = 1
        WornThings x = of("person 0 0;person 0 1;person 0 2;thing 1 7 1;thing 1 4 0;shames odd;returns 0;");
        due("behind three", x.years(1, 3, 2), 0);
        due("behind four", x.years(1, 4, 2), 1);
        due("its shame", x.years(1, 4, 1), 4);
        // 0: person 7419 MOD 3 = 0 would steal thing 16212 MOD 2 = 0
        due("behind five", x.years(1, 5, 2), 2);
        due("their shame", x.years(1, 5, 1), 15);
        // 1: thing 2749 MOD 2 = 1 is dyed 12767 MOD 10 = 7
        due("behind six", x.years(1, 6, 1), 29);
        // 4: nothing
        due("behind seven", x.years(1, 7, 1), 43);
        due("worn", x.years(1, 7, 2), 2);
        // by seed 0: 0, so that person 21468 MOD 3 = 0 steals thing 9988 MOD 2 = 0
        due("no day", x.years(0, 0, 2), 0);
        due("by a seed of 0", x.years(0, 1, 2), 1);
        due("its shame", x.years(0, 1, 1), 7);
    }

    private static void bitsOfADraw() {
        WornThings x = of(times("person 0 0;", 8) + times("thing 1 0 7;", 10) + "shames 0;returns 0;");
        // by seed 14 there is bit 31, and 6360 in the bits 16 to 30: 0 of 5, person 30912 MOD 8 = 0, thing 11748 MOD 10 = 8
        due("stolen; with bit 31 it would be 3", x.years(14, 1, 2), 1);
        // by seed 3 there is bit 31, and 17747: 2 of 5
        due("not stolen; with bit 31 it would be 0", x.years(3, 1, 2), 0);
        // by seed 6 there is bit 31, and 2726: 1 of 5, thing 25515 MOD 10 = 5 is dyed 10742 MOD 10 = 2
        WornThings y = of("person 0 0;person 0 1;" + times("thing 1 0 1 by 0;", 10) + "shames odd;returns 0;");
        due("dyed; with bit 31 it would be 4", y.years(6, 1, 1), 2);
    }

    private static void keptInAnImage() {
        WornThings x = of(SMALL);
        x.days(1);
        x.note(0, 1, true);
        x.image();
        int shame = x.person(0, 2);
        x.days(3);
        due("another day", x.count(4), 4);
        due("other shame", x.person(0, 2) == shame ? 1 : 0, 0);
        x.days(1);
        due("another owner", x.thing(0, 2), 0);
        x.steal(2, 1);
        x.dye(2, 9);
        x.walk(0, 1, 2);
        x.forget();
        due("restored", x.restore() ? 1 : 0, 1);
        due("the day", x.count(4), 1);
        due("who wears what", x.count(5), 5);
        due("who wears what", x.thing(0, 3) * 10 + x.thing(2, 3), 1);
        due("owners", x.thing(0, 2) * 100 + x.thing(1, 2) * 10 + x.thing(2, 2), 102);
        due("days of things", x.thing(0, 4) * 10 + x.thing(2, 4), 11);
        due("odd", x.thing(2, 1), 2);
        due("shame", x.person(0, 2), 4);
        due("walks", x.where(0, 1, 0), 1);
        due("acts", x.count(8), 1);
        due("noted", x.count(9), 1);
        due("what is noted", x.vain(2), 1);
        due("undo", x.undo(), 0);
        due("the first day", x.count(4), 0);
        due("no more", x.undo(), -1);
    }

    /** STATUS, the tape and the FAULT's place go on as they are. */
    private static void notInAnImage() {
        WornThings x = of(SMALL);
        x.image();
        tell(x, "term 0;");
        x.days(0);
        x.note(0, 31, true);
        x.feed(0, 0, 0, 0, 0);
        x.restore();
        due("refused texts", x.count(11), 1);
        due("refused acts", x.count(12), 1);
        due("refused notes", x.count(13), 1);
        due("tape", x.count(10), 20);
        due("fault", x.fault(), 5);
    }
}
