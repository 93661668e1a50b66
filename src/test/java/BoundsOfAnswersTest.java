/** The boundaries of what is asked: parts 3 to 5 of Terms, promises 5 to 7, 14 to 37. */
public final class BoundsOfAnswersTest extends Checks {
    /** Person 0 wears the thing of person 1, who always looks; neither has shame by it. */
    private static final String SEEN = "person 9 0;person 9 0;thing 1 0 1 by 0;";
    /** Person 0 wears the thing of person 1, and nobody ever looks. */
    private static final String ALONE = "person 0 0;person 0 1;thing 1 0 1 by 0;";
    /** Person 0 wears the thing of person 1 and is seen on the DAYS 0, 3, 6 .. : by TERM 34 it is one's own behind 100 DAYS. */
    private static final String THIRDS = "person 9 0;person 9 0 1 1;thing 1 0 1 by 0;";
    /** Person 0 wears the thing of person 1 and is seen on the DAYS 0, 4, 8 .. : by TERM 26 it would be so behind 101 DAYS. */
    private static final String FOURTHS = "person 9 0;person 9 0 1 1 1;thing 1 0 1 by 0;";
    /** Two who are at one PLACE on DAY 29, 59 .. alone; person 0 wears the thing of person 1. */
    private static final String RARELY = "person 0 0 0 0 0 0 1;person 0 2 2 2 2 1;thing 1 0 1 by 0;";

    public static void main(String[] args) {
        ofNow();
        ofDaysToCome();
        ofTies();
        ofNotes();
        ofChance();
        ofWalks();
        finish("BoundsOfAnswersTest");
    }

    private static void ofNow() {
        sentence("0 PLACES, 1 PEOPLE, 2 THINGS, 3 TERM, 4 the DAY, 5 THINGS that are WORN (bits), 6 RINGS (bits), 7 SHAME of all,"
            + " 8 ACTS that are kept, 9 NOTED, 10 bytes of the tape, 11 to 13 STATUS 0 to 2.", BoundsOfAnswersTest::count);
        sentence("0 VANITY, 1 the PLACE of this DAY, 2 SHAME, 3 whether blind (1), 4 what one WEARS (bits), 5 LOAD, 6 MISSED (bits),"
            + " 7 WEIGHT that one owns, 8 ODDEST (NONE).", BoundsOfAnswersTest::person);
        sentence("NoSuchElementException: no such PERSON (as everywhere), what.", BoundsOfAnswersTest::noSuchPerson);
        sentence("LOAD of one: WEIGHT of all that one WEARS.", BoundsOfAnswersTest::load);
        sentence("MISSED by one: THINGS of one's own that are WORN, as bits.", BoundsOfAnswersTest::missed);
        sentence("ODDEST that one WEARS (of like ones the least); none.", BoundsOfAnswersTest::oddest);
        sentence("5 what SHAMES gives for it on this DAY, kept (0: it isn't WORN).", BoundsOfAnswersTest::shamesOfThisDay);
        sentence("NoSuchElementException: no such THING (as everywhere), what.", BoundsOfAnswersTest::noSuchThing);
    }

    private static void ofDaysToCome() {
        sentence("THEN, behind so many DAYS (0 to 100): who WEARS a THING, whose it is, its DAYS;", BoundsOfAnswersTest::then);
        sentence("SHAME of a PERSON;", BoundsOfAnswersTest::laterShame);
        sentence("how much WEIGHT one owns (of all of which one is OWNER, WORN or not).", BoundsOfAnswersTest::laterWeight);
        sentence("ONE'S OWN: behind how many DAYS (1 to 100) a THING that is WORN has who WEARS it now as OWNER first; none.",
            BoundsOfAnswersTest::onesOwn);
        sentence("GIVEN BACK: behind how many DAYS (1 to 100) who WEARS it now gives it back first; none.",
            BoundsOfAnswersTest::givenBack);
        sentence("RICHEST behind so many DAYS (0 to 100): who owns most WEIGHT (of like ones the least); none.",
            BoundsOfAnswersTest::richest);
        sentence("MOST ASHAMED then (of like ones the least); none.", BoundsOfAnswersTest::mostAshamed);
        sentence("WORN then: THINGS that are WORN, as bits.", BoundsOfAnswersTest::wornThen);
        sentence("CHANGED in so many DAYS (0 to 100): how often a THING is somebody's own in them.", BoundsOfAnswersTest::changed);
        sentence("PLACE of one in the k-th DAY from now (1 to 100; the one that comes is the 1st);", BoundsOfAnswersTest::where);
        sentence("who LOOKS at one in it (bits).", BoundsOfAnswersTest::whoLooks);
        sentence("SHAMED: behind how many DAYS (0 to 100) SHAME of one is so much (1 to 99) or more first; none.",
            BoundsOfAnswersTest::shamed);
        sentence("HAS, behind so many DAYS (0 to 100): THINGS that one owns, as bits.", BoundsOfAnswersTest::has);
        sentence("QUIET: THINGS that are WORN neither now nor behind any of so many DAYS (0 to 100), if only these go by, as bits.",
            BoundsOfAnswersTest::quiet);
        sentence("(a WALK of just that, of one alone), so that it is ONE'S OWN soonest (within 100 DAYS; of like ones the least):",
            BoundsOfAnswersTest::toStand);
        sentence("TO STEAL for one: the THING that isn't one's own, and that one doesn't WEAR, that would, STOLEN now, be ONE'S OWN"
            + " soonest (within 100 DAYS; of like ones the least): which; behind how many; none.", BoundsOfAnswersTest::toSteal);
        sentence("it would be above 9999.", BoundsOfAnswersTest::behindTheLastDay);
    }

    private static void ofTies() {
        sentence("on some of so many DAYS from now (1 to 100; by the WALKS): of as few the least as bits"
            + " (0, if nobody WEARS anything).", BoundsOfAnswersTest::watch);
        sentence("go each to somebody who isn't its OWNER (who WEARS it may be that one), no two to one,", BoundsOfAnswersTest::leastTo);
        sentence("so that ODD less VANITY (0 at least) of all together is least: how much;", BoundsOfAnswersTest::leastMuch);
        sentence("of like ones the first row (by THINGS);", BoundsOfAnswersTest::leastRow);
        sentence("none, if there are more THINGS than could go so.", BoundsOfAnswersTest::leastNone);
        sentence("whom one comes to from a PERSON by such steps (bits; oneself only if one comes back).", BoundsOfAnswersTest::whose);
        sentence("RINGS: PEOPLE who come back to themselves so (bits).", BoundsOfAnswersTest::rings);
        sentence("TAKES: THINGS of another one that one WEARS now, as bits.", BoundsOfAnswersTest::takes);
    }

    private static void ofNotes() {
        sentence("NOTED (at most 8):", BoundsOfAnswersTest::eightNotes);
        sentence("that a THING is WORN, or isn't, behind so many DAYS (0 to 30).", BoundsOfAnswersTest::daysOfNotes);
        sentence("NONE (STATUS 2): there are 8, not 0 to 30.", BoundsOfAnswersTest::noteRefused);
        sentence("All that is NOTED is forgotten.", BoundsOfAnswersTest::forget);
        sentence("VAIN: PEOPLE and VANITIES (0 to 9, another one than one has) by one of which from now on all NOTED would be so:"
            + " how many;", BoundsOfAnswersTest::vain);
        sentence("the first (10 by who, and VANITY);", BoundsOfAnswersTest::firstVain);
        sentence("whether it is so without (1).", BoundsOfAnswersTest::without);
        sentence("ASK NEXT: the THING (of like ones the least) of which DAYS behind 10 DAYS by these would be most unlike",
            BoundsOfAnswersTest::ask);
        sentence("(its DAYS and who WEARS it, both):", BoundsOfAnswersTest::askBoth);
        sentence("how many unlike ones; none without any.", BoundsOfAnswersTest::askNone);
        sentence("2 of what is NOTED.", BoundsOfAnswersTest::statusOfNotes);
    }

    private static void ofChance() {
        sentence("FOG: on each of so many DAYS (1 to 5) there is FOG with so many tenths (0 to 10):", BoundsOfAnswersTest::fog);
        sentence("nobody LOOKS at anybody on it:", BoundsOfAnswersTest::nobodyLooksInFog);
        sentence("each gives all back now (as by the ACT, SHAME stays), or not (1, 0):", BoundsOfAnswersTest::gameBack);
        sentence("each gains 4 for each THING that one owns behind 12 DAYS,", BoundsOfAnswersTest::gameOwns);
        sentence("less an eighth of SHAME then, cut down.", BoundsOfAnswersTest::gameShame);
        sentence("A couple RESTS, if neither gains more by the other choice: how many;", BoundsOfAnswersTest::gameRests);
        sentence("NONE for both, if one WEARS nothing.", BoundsOfAnswersTest::gameNone);
        sentence("IllegalArgumentException (behind that): both are one.", BoundsOfAnswersTest::gameBothAreOne);
        sentence("YEARS by a seed: n DAYS (0 to 100) from now on:", BoundsOfAnswersTest::years);
        sentence("0 a DRAW of PEOPLE STEALS a DRAW of THINGS, if one may (both are drawn first);", BoundsOfAnswersTest::drawnFirst);
        sentence("1 a DRAW of THINGS is DYED: ODD is a DRAW of 10; 2 a DRAW of PEOPLE has no SHAME any more:",
            BoundsOfAnswersTest::drawsOfOneDay);
        sentence("how often a THING was somebody's own in these DAYS (as told above);", BoundsOfAnswersTest::ownInYears);
        sentence("(Without PEOPLE, or without THINGS, the DRAWS of 5 alone.)", BoundsOfAnswersTest::nobodyInYears);
    }

    private static void ofWalks() {
        sentence("MEET: in which DAY from now (1 to 100; the one that comes is the 1st) two are at one PLACE first; none.",
            BoundsOfAnswersTest::meet);
        sentence("MEET; NONE: none, both are one.", BoundsOfAnswersTest::meetOneself);
        sentence("FACED: in which DAY so the OWNER of a THING that is WORN LOOKS at who WEARS it first, by the WALKS; none.",
            BoundsOfAnswersTest::faced);
        sentence("BUSIEST of so many DAYS (1 to 100): the PLACE at which most PEOPLE are, DAY by DAY counted (of like ones the least).",
            BoundsOfAnswersTest::busiest);
        sentence("UNSEEN in so many DAYS (1 to 100): who WEARS something now, and at whom nobody LOOKS on any of them,"
            + " by the WALKS (bits).", BoundsOfAnswersTest::unseen);
    }

    private static void count() {
        WornThings x = busy();
        int[] want = {3, 3, 3, 3, 2, 7, 7, 7, 4, 2, 20, 1, 1, 1};
        for (int i = 0; i < want.length; i++) {
            due("count " + i, x.count(i), want[i]);
        }
        none("-1", () -> x.count(-1));
        none("14", () -> x.count(14));
        none("the least int", () -> x.count(LEAST_INT));
        none("the greatest int", () -> x.count(GREATEST_INT));
    }

    private static void person() {
        WornThings x = busy();
        int[][] want = {{1, 2, 7, 0, 1, 5, 2, 10, 0}, {3, 0, 0, 0, 4, 3, 1, 5, 2}, {2, 1, 0, 1, 2, 10, 4, 3, 1}};
        for (int p = 0; p < 3; p++) {
            for (int what = 0; what <= 8; what++) {
                due("person " + p + " " + what, x.person(p, what), want[p][what]);
            }
            int who = p;
            none("what -1", () -> x.person(who, -1));
            none("what 9", () -> x.person(who, 9));
        }
    }

    private static void noSuchPerson() {
        WornThings x = of(times("person 0 0;", 8));
        due("the last one", x.person(7, 0), 0);
        for (int p : new int[] {-2, -1, 8, 9, 32, LEAST_INT, GREATEST_INT}) {
            none("person " + p, () -> x.person(p, 0));
            none("later " + p, () -> x.later(p, 0, 0));
            none("whose " + p, () -> x.whose(p));
        }
        WornThings y = of("person 0 0;");
        due("the only one", y.person(0, 0), 0);
        none("one more", () -> y.person(1, 0));
        none("nobody at all", () -> new WornThings().person(0, 0));
    }

    private static void load() {
        WornThings x = of("person 0 0;person 0 0;" + times("thing 30 0 1 by 0;", 10));
        due("all", x.person(0, 5), 300);
        due("nothing", x.person(1, 5), 0);
        x.back(9);
        due("one less", x.person(0, 5), 270);
    }

    private static void missed() {
        WornThings x = of("person 0 0;person 0 0;" + times("thing 1 0 1 by 0;", 9) + "thing 1 0 1;");
        due("all but the last", x.person(1, 6), 511);
        due("nothing", x.person(0, 6), 0);
        x.steal(0, 9);
        due("all", x.person(1, 6), 1023);
    }

    private static void oddest() {
        WornThings x = of("person 0 0;person 0 0;thing 1 0 1;thing 1 0 1 by 0;thing 1 0 1 by 0;thing 1 9 1;");
        due("of like ones the least, even by 0", x.person(0, 8), 1);
        x.dye(2, 1);
        due("the odder one", x.person(0, 8), 2);
        x.dye(1, 1);
        due("of like ones the least", x.person(0, 8), 1);
        x.steal(0, 3);
        due("the last one", x.person(0, 8), 3);
        due("who wears nothing", x.person(1, 8), -1);
        WornThings ten = of("person 0 0;person 0 0;" + times("thing 1 8 1 by 0;", 9) + "thing 1 9 1 by 0;");
        due("the tenth", ten.person(0, 8), 9);
        ten.dye(9, 8);
        due("of ten like ones the least", ten.person(0, 8), 0);
        due("none of ten", ten.person(1, 8), -1);
    }

    private static void shamesOfThisDay() {
        WornThings x = of("person 0 0;person 0 0 1;thing 1 3 1 by 0;thing 1 9 1;");
        due("not worn", x.thing(1, 5), 0);
        due("on this day", x.thing(0, 5), 4);
        x.days(1);
        due("on the next one", x.thing(0, 5), 3);
        due("not worn, whatever the rule", of("person 0 0;person 0 0;thing 1 0 1;shames 20;").thing(0, 5), 0);
        due("kept", of(ALONE + "shames 21;").thing(0, 5), 20);
        due("kept", of(ALONE + "shames 0-1;").thing(0, 5), 0);
    }

    private static void noSuchThing() {
        WornThings x = of("person 0 0;" + times("thing 1 0 0;", 10));
        int[] want = {1, 0, 0, -1, 0, 0};
        for (int what = 0; what <= 5; what++) {
            due("the last one " + what, x.thing(9, what), want[what]);
        }
        for (int n : new int[] {-2, -1, 10, 11, LEAST_INT, GREATEST_INT}) {
            none("thing " + n, () -> x.thing(n, 0));
            none("when " + n, () -> x.when(n, 0));
            none("faced " + n, () -> x.faced(n));
        }
        none("what -1", () -> x.thing(0, -1));
        none("what 6", () -> x.thing(0, 6));
        none("nothing at all", () -> of("person 0 0;").thing(0, 0));
    }

    private static void then() {
        WornThings x = of(THIRDS + "term 34;");
        due("now", x.then(0, 0, 0) * 100 + x.then(0, 0, 1) * 10 + x.then(0, 0, 2), 10);
        due("wears behind 99", x.then(0, 99, 0), 0);
        due("owner behind 99", x.then(0, 99, 1), 1);
        due("days behind 99", x.then(0, 99, 2), 33);
        due("nobody wears behind 100", x.then(0, 100, 0), -1);
        due("owner behind 100", x.then(0, 100, 1), 0);
        due("days behind 100", x.then(0, 100, 2), 0);
        for (int what = 0; what <= 2; what++) {
            int w = what;
            illegal("-1", () -> x.then(0, -1, w));
            illegal("101", () -> x.then(0, 101, w));
        }
        none("what -1", () -> x.then(0, 0, -1));
        none("what 3", () -> x.then(0, 0, 3));
    }

    private static void laterShame() {
        WornThings x = of(ALONE + "shames 1;returns 0;");
        due("now", x.later(0, 0, 0), 0);
        due("behind 1", x.later(0, 1, 0), 1);
        due("behind 98", x.later(0, 98, 0), 98);
        due("behind 99", x.later(0, 99, 0), 99);
        due("behind 100, 99 at most", x.later(0, 100, 0), 99);
        WornThings y = of(ALONE + "shames day=99;returns 0;");
        due("behind 99", y.later(0, 99, 0), 0);
        due("behind 100", y.later(0, 100, 0), 1);
        illegal("-1", () -> x.later(0, -1, 0));
        illegal("101", () -> x.later(0, 101, 0));
        none("what -1", () -> x.later(0, 0, -1));
        none("what 2", () -> x.later(0, 0, 2));
    }

    private static void laterWeight() {
        WornThings x = of("person 9 0;person 9 0 1 1;thing 7 0 1 by 0;thing 20 0 1;thing 1 0 0;term 34;");
        due("worn or not", x.later(1, 0, 1), 27);
        due("of one's own", x.later(0, 99, 1), 1);
        due("behind 100", x.later(0, 100, 1), 8);
        due("behind 100", x.later(1, 100, 1), 20);
        due("all", of("person 0 0;" + times("thing 30 0 0;", 10)).later(0, 100, 1), 300);
        due("nothing", of("person 0 0;").later(0, 0, 1), 0);
        illegal("-1", () -> x.later(0, -1, 1));
        illegal("101", () -> x.later(0, 101, 1));
    }

    private static void onesOwn() {
        due("behind 1", of(SEEN + "term 1;").when(0, 0), 1);
        due("behind 99", of(SEEN + "term 99;").when(0, 0), 99);
        due("behind 100", of(THIRDS + "term 34;").when(0, 0), 100);
        due("not behind 101", of(FOURTHS + "term 26;").when(0, 0), -1);
        due("behind 97", of(FOURTHS + "term 25;").when(0, 0), 97);
        WornThings x = of(FOURTHS + "term 26;");
        x.days(1);
        due("behind 100 from the next day", x.when(0, 0), 100);
        due("never seen", of(ALONE).when(0, 0), -1);
        due("given back ahead of it", of(SEEN + "term 2;returns 1;").when(0, 0), -1);
        due("not worn", of("person 0 0;person 0 0;thing 1 0 1;term 1;").when(0, 0), -1);
        due("one's own on the day on which all would be given back", of(SEEN + "term 1;returns 1;").when(0, 0), 1);
    }

    private static void givenBack() {
        due("behind 1", of(ALONE + "returns 1;").when(0, 1), 1);
        due("behind 99", of(ALONE + "returns day=98;").when(0, 1), 99);
        due("behind 100", of(ALONE + "shames 0;returns day=99;").when(0, 1), 100);
        due("not behind 101", of(ALONE + "shames 0;returns day=100;").when(0, 1), -1);
        WornThings x = of(ALONE + "shames 0;returns day=100;");
        x.days(1);
        due("behind 100 from the next day", x.when(0, 1), 100);
        due("one's own ahead of it", of(SEEN + "term 1;returns 1;").when(0, 1), -1);
        due("never", of(ALONE + "returns 0;").when(0, 1), -1);
        due("not worn", of("person 0 0;person 0 0;thing 1 0 1;returns 1;").when(0, 1), -1);
        none("what -1", () -> x.when(0, -1));
        none("what 2", () -> x.when(0, 2));
    }

    private static void richest() {
        due("nobody", new WornThings().all(0, 0), -1);
        due("nobody, behind 100", new WornThings().all(100, 0), -1);
        due("one", of("person 0 0;").all(0, 0), 0);
        due("of like ones the least", of("person 0 0;person 0 0;thing 4 0 1;thing 3 0 0;thing 1 0 0;").all(0, 0), 0);
        due("the last one", of(times("person 0 0;", 8) + "thing 1 0 7;").all(0, 0), 7);
        due("worn or not", of("person 0 0;person 0 1;thing 2 0 1 by 0;thing 1 0 0;").all(0, 0), 1);
        WornThings x = of(THIRDS + "term 34;");
        due("behind 99", x.all(99, 0), 1);
        due("behind 100", x.all(100, 0), 0);
        illegal("-1", () -> x.all(-1, 0));
        illegal("101", () -> x.all(101, 0));
    }

    private static void mostAshamed() {
        due("nobody", new WornThings().all(0, 1), -1);
        due("nobody, behind 100", new WornThings().all(100, 1), -1);
        due("of like ones the least", of("person 0 0;person 0 1;thing 1 0 1 by 0;thing 1 0 0 by 1;shames 5;").all(1, 1), 0);
        due("the other one", of("person 0 0;person 0 1;thing 1 0 1 by 0;thing 1 1 0 by 1;shames 5+odd;").all(1, 1), 1);
        WornThings x = of("person 0 0;person 0 1;thing 1 0 0 by 1;shames day=99;returns 0;");
        due("behind 99 none has any", x.all(99, 1), 0);
        due("behind 100", x.all(100, 1), 1);
        illegal("-1", () -> x.all(-1, 1));
        illegal("101", () -> x.all(101, 1));
    }

    private static void wornThen() {
        WornThings x = of(THIRDS + "term 34;");
        due("now", x.all(0, 2), 1);
        due("behind 99", x.all(99, 2), 1);
        due("behind 100", x.all(100, 2), 0);
        due("all ten", of("person 9 0;person 9 1;" + times("thing 1 0 1 by 0;", 10)).all(100, 2), 1023);
        illegal("-1", () -> x.all(-1, 2));
        illegal("101", () -> x.all(101, 2));
    }

    private static void changed() {
        WornThings x = of(THIRDS + "term 34;");
        due("in none", x.all(0, 3), 0);
        due("in 99", x.all(99, 3), 0);
        due("in 100", x.all(100, 3), 1);
        WornThings y = of("person 9 0;person 9 0;" + times("thing 1 0 1 by 0;", 10) + "term 1;");
        due("in none", y.all(0, 3), 0);
        due("ten in one", y.all(1, 3), 10);
        y.days(1);
        due("only of days to come", y.all(100, 3), 0);
        illegal("-1", () -> x.all(-1, 3));
        illegal("101", () -> x.all(101, 3));
        none("what -1", () -> x.all(0, -1));
        none("what 4", () -> x.all(0, 4));
    }

    private static void where() {
        WornThings x = of("person 0 0 1 2;");
        due("the first is this day", x.where(0, 1, 0), x.person(0, 1));
        due("the 100th", x.where(0, 100, 0), 0);
        due("the 99th", x.where(0, 99, 0), 2);
        illegal("0", () -> x.where(0, 0, 0));
        illegal("-1", () -> x.where(0, -1, 0));
        illegal("101", () -> x.where(0, 101, 0));
        x.days(2);
        due("from now", x.where(0, 1, 0), 2);
        due("and round", x.where(0, 2, 0), 0);
    }

    private static void whoLooks() {
        WornThings x = of(RARELY);
        due("the 29th", x.where(0, 29, 1), 0);
        due("the 30th", x.where(0, 30, 1), 2);
        due("the 30th", x.where(1, 30, 1), 1);
        due("the 31st", x.where(0, 31, 1), 0);
        due("the 100th", x.where(0, 100, 1), 0);
        due("the 90th", x.where(0, 90, 1), 2);
        illegal("0", () -> x.where(0, 0, 1));
        illegal("101", () -> x.where(0, 101, 1));
        none("what -1", () -> x.where(0, 1, -1));
        none("what 2", () -> x.where(0, 1, 2));
    }

    private static void shamed() {
        WornThings x = of(ALONE + "shames 1;returns 0;");
        due("1 behind 1", x.shamed(0, 1), 1);
        due("99 behind 99", x.shamed(0, 99), 99);
        illegal("0", () -> x.shamed(0, 0));
        illegal("100", () -> x.shamed(0, 100));
        illegal("-1", () -> x.shamed(0, -1));
        due("behind 100", of(ALONE + "shames day=99;returns 0;").shamed(0, 1), 100);
        due("not behind 101", of(ALONE + "shames day=100;returns 0;").shamed(0, 1), -1);
        x.days(5);
        due("5 now", x.shamed(0, 5), 0);
        due("less now", x.shamed(0, 1), 0);
        due("6 behind 1", x.shamed(0, 6), 1);
        due("never", x.shamed(1, 1), -1);
        due("more at once", of(ALONE + "shames 20;returns 0;").shamed(0, 5), 1);
        due("given back by night, it never is so much", of(ALONE + "shames 20;").shamed(0, 40), -1);
    }

    private static void has() {
        WornThings x = of(THIRDS + "term 34;");
        due("now", x.has(1, 0), 1);
        due("behind 99", x.has(0, 99), 0);
        due("behind 100", x.has(0, 100), 1);
        due("behind 100", x.has(1, 100), 0);
        due("all ten", of("person 0 0;" + times("thing 1 0 0;", 10)).has(0, 100), 1023);
        due("nothing", of("person 0 0;").has(0, 0), 0);
        illegal("-1", () -> x.has(0, -1));
        illegal("101", () -> x.has(0, 101));
    }

    private static void quiet() {
        WornThings x = of("person 9 0;person 9 0;" + times("thing 1 0 1;", 8) + "thing 1 0 1 by 0;thing 1 0 0;term 1;");
        due("not what is worn now", x.quiet(0), 1023 - 256);
        due("not what was worn at first", x.quiet(100), 1023 - 256);
        x.days(1);
        due("all", x.quiet(0), 1023);
        due("all", x.quiet(100), 1023);
        due("nothing at all", new WornThings().quiet(100), 0);
        illegal("-1", () -> x.quiet(-1));
        illegal("101", () -> x.quiet(101));
    }

    private static void toStand() {
        // at each place one is seen once in three days, at 0 first: behind 100 days for the 34th time
        WornThings x = of("person 9 0;person 9 0 1 2;thing 1 0 1 by 0;term 34;");
        due("which", x.toStand(0, 0), 0);
        due("behind 100", x.toStand(0, 1), 100);
        // once in four days: behind 101 days for the 26th time
        WornThings y = of("places 4;person 9 0;person 9 0 1 2 3;thing 1 0 1 by 0;term 26;");
        due("none within 100", y.toStand(0, 0), -1);
        due("none within 100", y.toStand(0, 1), -1);
        WornThings w = of("person 9 0;person 9 1;person 9 2;thing 1 0 1 by 0;term 1;");
        due("of like ones the least", w.toStand(0, 0), 1);
        due("behind 1", w.toStand(0, 1), 1);
        due("nobody else is moved", w.where(1, 1, 0) * 10 + w.where(0, 1, 0), 10);
        due("not worn", of("person 9 0;person 9 0;thing 1 0 1;").toStand(0, 0), -1);
        due("not worn", of("person 9 0;person 9 0;thing 1 0 1;").toStand(0, 1), -1);
        WornThings last = of("places 6;person 9 0;person 9 5;thing 1 0 1 by 0;term 1;");
        due("the last place", last.toStand(0, 0), 5);
        // who stands still is never at place 1, where both would be seen on the second day
        WornThings walker = of("person 9 0 1;person 9 1;person 9 2;thing 1 0 1 by 0;term 2;");
        due("a walk of just that", walker.toStand(0, 1), 2);
        due("which", walker.toStand(0, 0), 1);
        none("what -1", () -> x.toStand(0, -1));
        none("what 2", () -> x.toStand(0, 2));
    }

    private static void toSteal() {
        WornThings x = of("person 9 0;person 9 0 1 1;thing 1 0 1;term 34;");
        due("which", x.toSteal(0, 0), 0);
        due("behind 100", x.toSteal(0, 1), 100);
        WornThings y = of("person 9 0;person 9 0 1 1 1;thing 1 0 1;term 26;");
        due("none within 100", y.toSteal(0, 0), -1);
        due("none within 100", y.toSteal(0, 1), -1);
        WornThings z = of("person 9 0;person 9 0;thing 1 0 0;thing 1 0 1 by 0;thing 1 0 1;thing 1 0 1;term 1;");
        due("not one's own, not what one wears; of like ones the least", z.toSteal(0, 0), 2);
        due("behind 1", z.toSteal(0, 1), 1);
        due("from the one who wears it now", of("person 9 0;person 9 0;person 9 0;thing 1 0 1 by 0;term 1;").toSteal(2, 0), 0);
        WornThings none = of("person 9 0;person 9 0;thing 1 0 0;thing 1 0 1 by 0;");
        due("there is none that one may steal", none.toSteal(0, 0), -1);
        due("there is none that one may steal", none.toSteal(0, 1), -1);
        due("without things", of("person 0 0;").toSteal(0, 0), -1);
        due("the last one", of("person 9 0;person 9 0;" + times("thing 1 0 0;", 9) + "thing 1 0 1;").toSteal(0, 0), 9);
        // its days so far don't help the thief, but those of what one wears by now stay
        WornThings w = of(SEEN + "thing 1 0 1;term 3;");
        w.days(2);
        due("all three days", w.toSteal(0, 1), 3);
        none("what -1", () -> x.toSteal(0, -1));
        none("what 2", () -> x.toSteal(0, 2));
    }

    /** What would be may lie behind the last DAY that days() reaches. */
    private static void behindTheLastDay() {
        WornThings x = of("person 9 0 1 2;person 9 1 2 0;thing 1 0 1 by 0;shames day=9999+1;returns day=9999+3;");
        for (int i = 0; i < 499; i++) {
            x.days(20);
        }
        due("9999", x.days(19), 9999);
        due("place of DAY 9999", x.where(0, 1, 0), 0);
        due("place of DAY 10098", x.where(0, 100, 0), 0);
        due("no shame yet", x.later(0, 1, 0), 0);
        due("shame of DAY 10000", x.later(0, 2, 0), 1);
        due("given back on DAY 10002", x.when(0, 1), 4);
    }

    private static void watch() {
        WornThings x = of("places 6;person 0 0 0 0 0 0 5;person 0 5;thing 1 0 1 by 0;thing 1 0 0 by 1;");
        due("1 day", x.watch(1), 33);
        due("5 days", x.watch(5), 33);
        due("6 days", x.watch(6), 32);
        due("100 days", x.watch(100), 32);
        illegal("0", () -> x.watch(0));
        illegal("-1", () -> x.watch(-1));
        illegal("101", () -> x.watch(101));
        due("of as few the least as bits", of("person 0 2 1;person 0 0;thing 1 0 1 by 0;").watch(2), 2);
        due("nobody wears anything", of("person 0 0;thing 1 0 0;").watch(1), 0);
        due("nobody at all", new WornThings().watch(100), 0);
        WornThings y = of("places 6;" + "person 0 0;person 0 1;person 0 2;person 0 3;person 0 4;person 0 5;"
            + "thing 1 0 1 by 0;thing 1 0 0 by 1;thing 1 0 0 by 2;thing 1 0 0 by 3;thing 1 0 0 by 4;thing 1 0 0 by 5;");
        due("all places", y.watch(100), 63);
    }

    private static void leastTo() {
        due("who wears it may be that one", of("person 0 0;person 0 0;thing 1 0 1 by 0;").least(0), 0);
        due("not its owner", of("person 0 0;person 9 0;thing 1 9 1 by 0;").least(0), 0);
        WornThings x = of("person 9 0;person 0 0;person 0 0;thing 1 9 1 by 0;thing 1 9 2 by 0;");
        due("no two to one", x.least(0) == x.least(1) ? 1 : 0, 0);
        due("one of them only has to bear it", x.least(-1), 9);
        due("not worn", of("person 0 0;person 0 0;thing 1 0 1;").least(0), -1);
        WornThings y = of(times("person 0 0;", 8) + "thing 1 0 7 by 0;" + times("thing 1 0 0 by 7;", 7));
        due("eight things to eight people", y.least(-1), 0);
        due("the one that may go to 0", y.least(0), 0);
        due("the last one", y.least(7), 7);
    }

    private static void leastMuch() {
        due("9 less 0", of("person 0 0;person 0 0;thing 1 9 1 by 0;").least(-1), 9);
        due("0 at least", of("person 9 0;person 0 0;thing 1 0 1 by 0;").least(-1), 0);
        due("0 at least for each", of("person 9 0;person 0 0;thing 1 0 1 by 0;thing 1 5 0 by 1;").least(-1), 5);
        due("5 less 5", of("person 5 0;person 0 0;thing 1 5 1 by 0;").least(-1), 0);
        due("6 less 5", of("person 5 0;person 0 0;thing 1 6 1 by 0;").least(-1), 1);
        due("nothing is worn", of("person 0 0;thing 1 0 0;").least(-1), 0);
        due("nobody at all", new WornThings().least(-1), 0);
    }

    private static void leastRow() {
        String four = times("person 9 0;", 4);
        WornThings x = of(four + "thing 1 1 3 by 2;thing 1 1 0 by 1;thing 1 1 1 by 2;");
        due("first row", x.least(0) * 100 + x.least(1) * 10 + x.least(2), 12);
        // the first thing may go to 0, but then the second one, which is 1's, would bear more
        WornThings y = of("person 5 0;person 0 0;person 5 0;thing 1 5 1 by 0;thing 1 5 2 by 0;");
        due("how much", y.least(-1), 0);
        due("the first goes to 2, so that the second may go to 0", y.least(0) * 10 + y.least(1), 20);
    }

    private static void leastNone() {
        String two = "person 0 0;person 0 0;";
        WornThings fits = of(two + "thing 1 0 1 by 0;thing 1 0 0 by 1;thing 1 0 0;");
        due("two to two", fits.least(-1), 0);
        due("one that isn't worn", fits.least(2), -1);
        WornThings x = of(two + "thing 1 0 1 by 0;thing 1 0 0 by 1;thing 1 0 0 by 1;thing 1 0 0;");
        for (int t = -1; t < 4; t++) {
            due("three to two", x.least(t), -2);
        }
        none("no such thing", () -> x.least(4));
        none("-2", () -> x.least(-2));
        // the only way is crosswise
        WornThings cross = of(two + "thing 1 0 0 by 1;thing 1 0 1 by 0;");
        due("how much", cross.least(-1), 0);
        due("to whom", cross.least(0) * 10 + cross.least(1), 10);
        x.back(2);
        due("two to two, behind three to two", x.least(-1), 0);
        x.undo();
        due("three to two again", x.least(-1), -2);
        due("two of one owner to two", of(two + "thing 1 0 1 by 0;thing 1 0 1 by 0;").least(-1), -2);
        due("two of one owner to three", of(two + "person 0 0;thing 1 0 1 by 0;thing 1 0 1 by 0;").least(-1), 0);
        due("eight of one owner to eight", of(times("person 0 0;", 8) + times("thing 1 0 7 by 0;", 8)).least(-1), -2);
        due("ten to eight", of(times("person 0 0;", 8) + times("thing 1 0 7 by 0;", 5) + times("thing 1 0 0 by 7;", 5)).least(0), -2);
    }

    private static void whose() {
        WornThings x = of("person 0 0;person 0 0;person 0 0;thing 1 0 1 by 0;thing 1 0 2 by 1;");
        due("two steps", x.whose(0), 6);
        due("one step", x.whose(1), 4);
        due("none", x.whose(2), 0);
        x.steal(2, 0);
        due("oneself, who comes back", x.whose(1), 6);
        due("oneself, who comes back", x.whose(2), 6);
        due("who wears nothing", x.whose(0), 0);
        StringBuilder chain = new StringBuilder(times("person 0 0;", 8));
        for (int p = 7; p > 0; p--) {
            chain.append("thing 1 0 ").append(p - 1).append(" by ").append(p).append(";");
        }
        due("seven steps", of(chain.toString()).whose(7), 127);
        due("no step", of(chain.toString()).whose(0), 0);
        due("all, and oneself", of(chain + "thing 1 0 7 by 0;").whose(7), 255);
    }

    private static void rings() {
        StringBuilder chain = new StringBuilder(times("person 0 0;", 8));
        for (int p = 1; p < 8; p++) {
            chain.append("thing 1 0 ").append(p).append(" by ").append(p - 1).append(";");
        }
        due("a row is no ring", of(chain.toString()).count(6), 0);
        due("eight in a ring", of(chain + "thing 1 0 0 by 7;").count(6), 255);
        due("a ring at the end of a row", of(chain + "thing 1 0 6 by 7;").count(6), 192);
        due("two", of("person 0 0;person 0 0;thing 1 0 1 by 0;thing 1 0 0 by 1;").count(6), 3);
        due("nobody", new WornThings().count(6), 0);
    }

    private static void takes() {
        WornThings x = of("person 0 0;person 0 0;person 0 0;" + times("thing 1 0 1 by 0;", 9) + "thing 1 0 2 by 0;");
        due("nine of one", x.takes(0, 1), 511);
        due("one of another", x.takes(0, 2), 512);
        due("nothing", x.takes(1, 0), 0);
        due("of oneself", x.takes(0, 0), 0);
        due("of oneself", x.takes(1, 1), 0);
        none("person 3", () -> x.takes(3, 0));
        none("other 3", () -> x.takes(0, 3));
    }

    private static void eightNotes() {
        WornThings x = of(SMALL);
        for (int i = 1; i <= 8; i++) {
            due("note " + i, x.note(0, 0, true), i);
        }
        due("the ninth", x.note(0, 0, true), -1);
        due("noted", x.count(9), 8);
        due("refused", x.count(13), 1);
        x.note(0, 0, false);
        due("the ninth is not held", x.vain(2), 1);
        x.forget();
        due("there is room again", x.note(0, 0, true), 1);
        // the eighth counts as the first does
        WornThings y = of(SMALL);
        for (int i = 1; i <= 7; i++) {
            y.note(0, 0, true);
        }
        due("all so", y.vain(2), 1);
        y.note(0, 0, false);
        due("not the eighth", y.vain(2), 0);
        WornThings z = of(SMALL);
        z.note(1, 0, false);
        z.note(2, 0, true);
        due("each of its thing", z.vain(2), 1);
        z.note(1, 0, true);
        due("not so", z.vain(2), 0);
    }

    private static void daysOfNotes() {
        WornThings x = of(ALONE + "shames 0;returns day=29;");
        due("0", x.note(0, 0, true), 1);
        due("30", x.note(0, 30, false), 2);
        due("29", x.note(0, 29, true), 3);
        due("all so", x.vain(2), 1);
        due("-1", x.note(0, -1, true), -1);
        due("31", x.note(0, 31, true), -1);
        due("refused", x.count(13), 2);
        x.note(0, 30, true);
        due("not both", x.vain(2), 0);
        WornThings y = of(ALONE + "shames 0;returns day=30;");
        y.note(0, 30, true);
        due("31 isn't behind 30", y.vain(2), 1);
        y.days(1);
        due("from now on", y.vain(2), 0);
    }

    private static void noteRefused() {
        for (int days : new int[] {-1, 31, 100, LEAST_INT, GREATEST_INT}) {
            refused("note of " + days, x -> x.note(0, days, true), -1, 2);
        }
        WornThings x = busy();
        WornThings y = busy();
        for (int i = 0; i < 6; i++) {
            x.note(2, 1, true);
            y.note(2, 1, true);
        }
        due("the ninth", x.note(0, 0, false), -1);
        due("refused", x.count(13), y.count(13) + 1);
        alike("the ninth note", x, y, "count 13");
        for (int thing : new int[] {-1, 3, LEAST_INT, GREATEST_INT}) {
            changesNothing("note of thing " + thing, z -> z.note(thing, 0, true), 1);
            changesNothing("ahead: note of thing " + thing, z -> z.note(thing, 31, true), 1);
        }
        WornThings full = of(SMALL);
        for (int i = 0; i < 8; i++) {
            full.note(0, 0, true);
        }
        none("ahead, even if there are 8", () -> full.note(3, 0, true));
        due("not refused", full.count(13), 0);
    }

    private static void forget() {
        WornThings x = of(SMALL);
        x.forget();
        due("nothing to forget", x.count(9), 0);
        x.note(0, 0, false);
        due("not so", x.vain(2), 0);
        x.forget();
        due("none", x.count(9), 0);
        due("so", x.vain(2), 1);
        due("acts stay", x.undo(), -1);
        due("nothing counts as refused", x.count(13), 0);
        WornThings y = busy();
        y.forget();
        due("acts", y.count(8), 4);
        due("the image has them", y.restore() ? 1 : 0, 1);
        due("one", y.count(9), 1);
    }

    private static void vain() {
        due("nobody", new WornThings().vain(0), 0);
        due("nine others", of("person 0 0;").vain(0), 9);
        due("nine others", of("person 9 0;").vain(0), 9);
        due("nine of each of eight", of(times("person 4 0;", 8)).vain(0), 72);
        WornThings x = of("person 5 0;person 0 1;thing 1 0 1 by 0;shames 0;returns 1-vanity;");
        x.note(0, 1, false);
        due("vanity 0 alone", x.vain(0), 1);
        due("the first", x.vain(1), 0);
        due("not without", x.vain(2), 0);
        WornThings y = of("person 5 0;person 0 1;thing 1 0 1 by 0;shames 0;returns vanity-8;");
        y.note(0, 1, false);
        due("vanity 9 alone", y.vain(0), 1);
        due("the first", y.vain(1), 9);
        WornThings z = of("person 5 0;person 0 1;thing 1 0 1 by 0;shames 0;returns vanity=5;");
        z.note(0, 1, false);
        due("the one that one has is not among them; the other one's nine are", z.vain(0), 9);
        due("the first", z.vain(1), 11);
        due("so without", z.vain(2), 1);
        none("what -1", () -> x.vain(-1));
        none("what 3", () -> x.vain(3));
    }

    private static void firstVain() {
        due("none", new WornThings().vain(1), -1);
        due("the first other one", of("person 0 0;").vain(1), 1);
        due("the first other one", of("person 1 0;").vain(1), 0);
        WornThings x = of(times("person 0 0;", 7) + "person 0 1;thing 1 0 0 by 7;shames 5;returns 39<shame and vanity<9;");
        x.note(0, 30, true);
        due("the last one of all", x.vain(1), 79);
        due("alone", x.vain(0), 1);
        x.note(0, 30, false);
        due("none", x.vain(1), -1);
        due("none", x.vain(0), 0);
    }

    private static void without() {
        due("nothing is noted", new WornThings().vain(2), 1);
        WornThings x = of(ALONE + "returns 0;");
        x.note(0, 0, true);
        due("so", x.vain(2), 1);
        x.note(0, 30, false);
        due("not so", x.vain(2), 0);
    }

    private static void ask() {
        String rule = "term 99;shames 0;returns ";
        WornThings x = of("person 5 0;person 0 0;thing 1 0 1;thing 1 0 1 by 0;" + rule + "day=9 and vanity=3;");
        due("behind 10 days", x.ask(0), 1);
        due("given back or not", x.ask(1), 2);
        WornThings y = of("person 5 0;person 0 0;thing 1 0 1;thing 1 0 1 by 0;" + rule + "day=10 and vanity=3;");
        due("not behind 11", y.ask(1), 1);
        due("all alike: the least", y.ask(0), 0);
        WornThings z = of("person 5 0;person 0 0;thing 1 0 1 by 0;thing 1 0 1 by 0;" + rule + "vanity=3;");
        due("of like ones the least", z.ask(0), 0);
        due("two", z.ask(1), 2);
        WornThings last = of("person 5 0;person 0 0;" + times("thing 1 0 1;", 9) + "thing 1 0 1 by 0;" + rule + "vanity=3;");
        due("the last one", last.ask(0), 9);
        String eight = times("person 5 0;", 7) + "person 5 1;thing 1 0 0 by 7;shames 0;returns vanity=";
        due("the last one's least vanity", of(eight + "0;").ask(1), 2);
        due("the last one's greatest vanity", of(eight + "9;").ask(1), 2);
        due("the one that the last one has, by others' vanities", of(eight + "5;").ask(1), 2);
        due("one that nobody has", of(eight + "10;").ask(1), 1);
        none("what -1", () -> x.ask(-1));
        none("what 2", () -> x.ask(2));
    }

    private static void askBoth() {
        // nobody looks, so its DAYS are 0 whether it is given back or not
        due("who wears it", of(ALONE + "shames 0;returns vanity=3;").ask(1), 2);
        due("neither", of(ALONE + "shames 0;returns 0;").ask(1), 1);
        // one's own, or given back: nobody wears it, its DAYS are 0
        due("both alike", of("person 5 0;person 5 0;thing 1 0 1 by 0;term 2;shames 0;returns vanity=3;").ask(1), 1);
    }

    private static void askNone() {
        due("nobody", new WornThings().ask(0), -1);
        due("nobody", new WornThings().ask(1), 0);
        due("no things", of("person 0 0;").ask(0), -1);
        due("no things", of("person 0 0;").ask(1), 0);
        WornThings x = of(ALONE);
        due("with some who are all alike", x.ask(1), 1);
        x.note(0, 0, false);
        due("without any", x.ask(0), -1);
        due("without any", x.ask(1), 0);
        due("one that all agree on", of("person 0 0;thing 1 0 0;").ask(1), 1);
        due("which", of("person 0 0;thing 1 0 0;").ask(0), 0);
    }

    private static void statusOfNotes() {
        WornThings x = of(SMALL);
        x.note(0, 0, true);
        due("none yet", x.count(13), 0);
        x.note(0, 31, true);
        due("one", x.count(13), 1);
        x.note(0, -1, true);
        due("two", x.count(13), 2);
        none("thing", () -> x.note(3, 31, true));
        due("not what throws", x.count(13), 2);
        due("no text, no act", x.count(11) + x.count(12), 0);
    }

    private static void fog() {
        WornThings x = of(SEEN + "term 1;");
        int all = 1;
        for (int days = 1; days <= 5; days++) {
            all *= 10;
            for (int tenths = 0; tenths <= 10; tenths++) {
                int always = 1;
                for (int i = 0; i < days; i++) {
                    always *= tenths;
                }
                due("fog " + days + " " + tenths, x.fog(0, days, tenths), all - always);
            }
        }
        due("never another owner", of(SEEN + "term 6;").fog(0, 5, 0), 0);
        due("on the fifth day", of(SEEN + "term 5;").fog(0, 5, 0), 100000);
        due("all five clear", of(SEEN + "term 5;").fog(0, 5, 9), 1);
        due("not worn", of("person 0 0;person 0 0;thing 1 0 1;term 1;").fog(0, 5, 0), 0);
        for (int n : new int[] {-1, 0, 6, LEAST_INT, GREATEST_INT}) {
            illegal("days " + n, () -> x.fog(0, n, 0));
        }
        for (int n : new int[] {-1, 11, LEAST_INT, GREATEST_INT}) {
            illegal("tenths " + n, () -> x.fog(0, 1, n));
        }
    }

    private static void nobodyLooksInFog() {
        // two days of fog bring 40 of shame; so it is one's own if the third clear day comes ahead of the second one of fog
        WornThings x = of("person 0 0;person 0 0;thing 1 0 1 by 0;term 3;shames 20-20*eyes;");
        due("five days", x.fog(0, 5, 5), 31250);
        due("four days", x.fog(0, 4, 5), 3125);
        due("three days", x.fog(0, 3, 5), 125);
        due("two days", x.fog(0, 2, 5), 0);
        WornThings y = of("person 0 0;person 0 0;thing 1 0 1 by 0;term 2;shames 20*(1-owner);returns shame;");
        due("nor does the owner", y.fog(0, 2, 5), 25);
        due("nothing changes", y.count(4), 0);
    }

    private static void gameBack() {
        WornThings x = of("person 0 0;person 0 0;thing 1 0 1 by 0;thing 1 0 1 by 0;thing 1 0 0 by 1;term 99;shames 3;returns 0;");
        due("both give all back", x.game(0, 1, 1), 11);
        due("nothing changes", x.count(5), 7);
        // shame stays by the act: 99 and then 24 less behind 12 days, an eighth is 9
        WornThings y = of("person 0 0;person 0 0;thing 1 0 1 by 0;thing 1 0 0 by 1;term 99;shames 20*(day<5);returns 0;");
        y.days(5);
        due("less shame", y.game(0, 1, 1), 11);
        due("that alone", y.game(0, 1, 0), 1);
    }

    private static void gameOwns() {
        String both = "person 0 0;person 0 0;thing 1 0 1 by 0;thing 1 0 0 by 1;shames 0;term ";
        due("own behind 12", of(both + "12;").game(0, 1, 0), 1);
        due("own behind 12", of(both + "12;").game(0, 1, 1), 0);
        due("not behind 13", of(both + "13;").game(0, 1, 0), 4);
        due("not behind 13", of(both + "13;").game(0, 1, 1), 0);
        // one thing is worth 4: as much as 32 of shame, less than 40
        String worth = "person 0 0;person 0 0;thing 1 0 1 by 0;thing 1 0 0 by 1;returns 0;term 12;shames ";
        due("34 less 2", of(worth + "17*(10-1<day);").game(0, 1, 0), 4);
        due("40 less 2", of(worth + "20*(10-1<day);").game(0, 1, 0), 4);
        due("42 less 2", of(worth + "14*(10-2<day);").game(0, 1, 1), 11);
    }

    private static void gameShame() {
        String both = "person 0 0;person 0 0;thing 1 0 1 by 0;thing 1 0 0 by 1;term 99;returns 0;shames day<";
        due("an eighth of 7 is 0", of(both + "7;").game(0, 1, 0), 4);
        due("an eighth of 8 is 1", of(both + "8;").game(0, 1, 0), 1);
        due("an eighth of 8 is 1", of(both + "8;").game(0, 1, 1), 11);
        due("the thirteenth day does not count", of(both.replace("day<", "") + "8*(day=12);").game(0, 1, 0), 4);
        due("the twelfth does", of(both.replace("day<", "") + "8*(day=11);").game(0, 1, 0), 1);
    }

    private static void gameRests() {
        WornThings same = of("person 9 0;person 9 1;thing 1 0 1 by 0;thing 1 0 0 by 1;");
        due("as much is not more", same.game(0, 1, 0), 4);
        due("the first", same.game(0, 1, 1), 0);
        // the first one keeps (no shame, and nobody looks), the other one gives back
        WornThings x = of("person 9 0;person 0 1;thing 1 0 1 by 0;thing 1 9 0 by 1;returns 0;term 99;");
        due("two rest", x.game(0, 1, 0), 2);
        due("0 and 1", x.game(0, 1, 1), 1);
        due("1 and 0", x.game(1, 0, 1), 10);
        none("what -1", () -> x.game(0, 1, -1));
        none("what 2", () -> x.game(0, 1, 2));
    }

    private static void gameNone() {
        WornThings x = of("person 0 0;person 0 0;person 0 0;thing 1 0 1 by 0;thing 1 0 0 by 1;");
        due("both wear", x.game(0, 1, 0) > 0 ? 1 : 0, 1);
        for (int what = 0; what <= 1; what++) {
            due("the first one does not", x.game(2, 0, what), -1);
            due("the other one does not", x.game(0, 2, what), -1);
        }
        x.back(1);
        due("not any more", x.game(0, 1, 0), -1);
        x.back(0);
        due("neither does", x.game(0, 1, 1), -1);
    }

    private static void gameBothAreOne() {
        WornThings x = of(SMALL);
        illegal("one who wears", () -> x.game(0, 0, 0));
        illegal("one who wears nothing", () -> x.game(2, 2, 1));
        none("ahead: what", () -> x.game(0, 0, 2));
        none("ahead: person", () -> x.game(3, 3, 0));
        none("ahead: -1", () -> x.game(-1, -1, 0));
        none("person", () -> x.game(-1, 0, 0));
        none("other", () -> x.game(0, 3, 0));
    }

    private static void years() {
        WornThings x = of(THIRDS + "term 34;");
        for (int seed : new int[] {0, 1, -1, LEAST_INT, GREATEST_INT}) {
            due("no days", x.years(seed, 0, 0), 0);
            due("no days", x.years(seed, 0, 1), 0);
            due("no days", x.years(seed, 0, 2), 1);
            for (int what = 0; what <= 2; what++) {
                int w = what;
                due("a hundred", thrown(() -> x.years(seed, 100, w)), 0);
                illegal("-1", () -> x.years(seed, -1, w));
                illegal("101", () -> x.years(seed, 101, w));
            }
            none("what -1", () -> x.years(seed, 0, -1));
            none("what 3", () -> x.years(seed, 0, 3));
        }
        illegal("the least int", () -> x.years(1, LEAST_INT, 0));
        illegal("the greatest int", () -> x.years(1, GREATEST_INT, 0));
        due("nothing changes", x.count(4), 0);
    }

    private static final class Draws {
        int seed;

        Draws(int seed) {
            this.seed = seed;
        }

        int of(int n) {
            seed = seed * 1103515245 + 12345;
            return (seed >> 16 & 32767) % n;
        }
    }

    /** Nobody ever looks, nobody has shame: only the draws tell who wears what. */
    private static void drawnFirst() {
        for (int seed = -40; seed <= 40; seed++) {
            int first = seed % 7 == 0 ? seed * 123456789 : seed;
            WornThings x = of("person 0 0;person 0 1;person 0 2;thing 1 0 0;thing 1 0 1;shames 0;returns 0;");
            Draws draws = new Draws(first);
            int[] wearer = {-1, -1};
            for (int n = 1; n <= 12; n++) {
                int event = draws.of(5);
                if (event == 0) {
                    int who = draws.of(3);
                    int thing = draws.of(2);
                    wearer[thing] = who == thing ? wearer[thing] : who;
                } else if (event == 1) {
                    draws.of(2);
                    draws.of(10);
                } else if (event == 2) {
                    draws.of(3);
                }
                due("worn behind " + n + " by " + first, x.years(first, n, 2), (wearer[0] < 0 ? 0 : 1) + (wearer[1] < 0 ? 0 : 1));
            }
        }
    }

    private static void drawsOfOneDay() {
        WornThings x = of("person 0 0;person 0 1;thing 1 9 1 by 0;shames odd;returns 0;");
        x.days(2);
        int[] seen = new int[5];
        for (int seed = -60; seed <= 60; seed++) {
            Draws draws = new Draws(seed);
            int event = draws.of(5);
            seen[event]++;
            int want = 27;
            if (event == 1) {
                draws.of(1);
                want = 18 + draws.of(10);
            } else if (event == 2 && draws.of(2) == 0) {
                want = 9;
            }
            due("shame by " + seed, x.years(seed, 1, 1), want);
        }
        for (int event = 0; event < 5; event++) {
            due("each of five was drawn", seen[event] > 0 ? 1 : 0, 1);
        }
        due("the shame of now stays", x.person(0, 2), 18);
        due("the odd of now stays", x.thing(0, 1), 9);
    }

    private static void ownInYears() {
        WornThings x = of(SEEN + "term 1;");
        for (int seed = 0; seed < 50; seed++) {
            due("in one day", x.years(seed, 1, 0), 1);
            due("in none", x.years(seed, 0, 0), 0);
        }
        x.days(1);
        due("only in these days", x.years(1, 0, 0), 0);
    }

    private static void nobodyInYears() {
        WornThings people = of(times("person 0 0;", 8));
        for (int seed = -20; seed <= 20; seed++) {
            for (int what = 0; what <= 2; what++) {
                due("nobody", new WornThings().years(seed, 100, what), 0);
                due("no things", people.years(seed, 100, what), 0);
            }
        }
    }

    private static void meet() {
        WornThings x = of(RARELY);
        due("the 30th", x.meet(0, 1), 30);
        due("the other way", x.meet(1, 0), 30);
        x.days(20);
        x.days(9);
        due("the one that comes", x.meet(0, 1), 1);
        x.days(1);
        due("the 30th from then", x.meet(0, 1), 30);
        due("never", of("person 0 0;person 0 1;").meet(0, 1), -1);
        due("the blind too", of("blind 0 0;blind 0 0;").meet(0, 1), 1);
    }

    private static void meetOneself() {
        WornThings x = of(SMALL);
        due("oneself", x.meet(0, 0), -1);
        due("oneself", x.meet(2, 2), -1);
        none("person ahead", () -> x.meet(3, 3));
        none("-1", () -> x.meet(-1, -1));
        none("other", () -> x.meet(0, 3));
    }

    private static void faced() {
        WornThings x = of(RARELY + "thing 1 0 0;");
        due("the 30th", x.faced(0), 30);
        due("not worn", x.faced(1), -1);
        x.steal(1, 1);
        due("the other way", x.faced(1), 30);
        x.days(20);
        x.days(9);
        due("the one that comes", of("person 0 0;person 0 0;thing 1 0 1 by 0;").faced(0), 1);
        due("never", of(ALONE).faced(0), -1);
        due("a blind owner", of("person 0 0;blind 0 0;thing 1 0 1 by 0;").faced(0), -1);
        due("a blind one who wears it", of("blind 0 0;person 0 0;thing 1 0 1 by 0;").faced(0), 1);
        due("others don't count", of("person 0 0;person 0 1;person 0 0;thing 1 0 1 by 0;").faced(0), -1);
    }

    private static void busiest() {
        WornThings x = of("person 0 1 0;");
        due("1", x.walks(1, 0), 1);
        due("2, of like ones the least", x.walks(2, 0), 0);
        due("99", x.walks(99, 0), 1);
        due("100", x.walks(100, 0), 0);
        illegal("0", () -> x.walks(0, 0));
        illegal("-1", () -> x.walks(-1, 0));
        illegal("101", () -> x.walks(101, 0));
        x.days(1);
        due("from now", x.walks(1, 0), 0);
        due("nobody", new WornThings().walks(100, 0), 0);
        due("the last place", of("places 6;person 0 5;").walks(100, 0), 5);
        due("the blind count", of("person 0 0;blind 0 1;blind 0 1;").walks(1, 0), 1);
    }

    private static void unseen() {
        WornThings x = of(RARELY);
        due("29", x.walks(29, 1), 1);
        due("30", x.walks(30, 1), 0);
        due("100", x.walks(100, 1), 0);
        due("1", x.walks(1, 1), 1);
        illegal("0", () -> x.walks(0, 1));
        illegal("101", () -> x.walks(101, 1));
        due("never", of(ALONE).walks(100, 1), 1);
        due("seen on the first day", of(SEEN).walks(1, 1), 0);
        due("seen on the first day alone", of("person 0 0;person 0 0 1 1 1 1 1;thing 1 0 1 by 0;").walks(5, 1), 0);
        due("only who wears something now", of("person 0 0;person 0 1;thing 1 0 1;").walks(1, 1), 0);
        due("the blind don't look", of("person 0 0;blind 0 0;thing 1 0 1 by 0;").walks(100, 1), 1);
        due("nobody", new WornThings().walks(1, 1), 0);
        due("the last one", of(times("person 0 0;", 7) + "person 0 1;thing 1 0 0 by 7;").walks(100, 1), 128);
        none("what -1", () -> x.walks(1, -1));
        none("what 2", () -> x.walks(1, 2));
    }
}
