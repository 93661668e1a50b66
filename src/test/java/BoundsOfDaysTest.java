/** The boundaries of days and of acts: part 2 of Terms, promises 8 to 13, 38 and 39. */
public final class BoundsOfDaysTest extends Checks {
    /** Person 0 wears the thing of person 1, who always looks. */
    private static final String SEEN = "person 0 0;person 0 0;thing 1 0 1 by 0;";
    /** Person 0 wears the thing of person 1, and nobody ever looks. */
    private static final String ALONE = "person 0 0;person 0 1;thing 1 0 1 by 0;";

    public static void main(String[] args) {
        day();
        acts();
        images();
        finish("BoundsOfDaysTest");
    }

    private static void day() {
        sentence("On DAY d one is at the (d MOD how many)-th PLACE of the WALK.", BoundsOfDaysTest::walkComesRound);
        sentence("A THING is WORN, if somebody else than its OWNER WEARS it.", BoundsOfDaysTest::isWorn);
        sentence("Those who LOOK at one on a DAY are the others at one's PLACE of that DAY who aren't blind.", BoundsOfDaysTest::look);
        sentence("SHAME of who WEARS it is more by what SHAMES gives, kept to 0 to 20", BoundsOfDaysTest::keptToTwenty);
        sentence("(without it ODD and how many LOOK, less VANITY)", BoundsOfDaysTest::withoutShames);
        sentence("99 at most;", BoundsOfDaysTest::shameAtMost);
        sentence("if somebody LOOKS, its DAYS are one more;", BoundsOfDaysTest::somebodyLooks);
        sentence("are they as many as TERM then, it is that one's own:", BoundsOfDaysTest::asManyAsTerm);
        sentence("that one is its OWNER from then on, nobody WEARS it, its DAYS are 0.", BoundsOfDaysTest::ownFromThenOn);
        sentence("Then PERSON by PERSON who WEARS something still:", BoundsOfDaysTest::wearsStill);
        sentence("if RETURNS, by what is so then, gives more than 0", BoundsOfDaysTest::moreThanNothing);
        sentence("(without it: if SHAME is 40 or more)", BoundsOfDaysTest::fortyOrMore);
        sentence("one gives back all that one WEARS by night (nobody WEARS it any more, its DAYS are 0), and SHAME is 0.",
            BoundsOfDaysTest::givesBackAll);
        sentence("Then each who WEARS nothing has 2 less SHAME (not below 0).", BoundsOfDaysTest::twoLess);
        sentence("The DAY is one more then.", BoundsOfDaysTest::oneMoreDay);
    }

    private static void acts() {
        sentence("ACTS (at most 40 are kept, the latest ones):", BoundsOfDaysTest::fortyActs);
        sentence("DAYS go by (1 to 20);", BoundsOfDaysTest::oneToTwenty);
        sentence("NONE (STATUS 1): not 1 to 20, it would be above 9999.", BoundsOfDaysTest::lastDay);
        sentence("one STEALS a THING that isn't one's own, and that one doesn't WEAR", BoundsOfDaysTest::mayNotSteal);
        sentence("(from whoever WEARS it, or from its OWNER, if it isn't WORN; its DAYS are 0 then, SHAME of both stays);",
            BoundsOfDaysTest::stealsFrom);
        sentence("-2 (STATUS 1): it is one's own, one WEARS it.", BoundsOfDaysTest::stealRefused);
        sentence("one who WEARS a THING gives it BACK (its DAYS are 0 then; SHAME stays);", BoundsOfDaysTest::back);
        sentence("NONE (STATUS 1): it isn't WORN.", BoundsOfDaysTest::backRefused);
        sentence("a PLACE of a WALK becomes another one (from this DAY on);", BoundsOfDaysTest::walkFromThisDayOn);
        sentence("NONE (STATUS 1): it is that one.", BoundsOfDaysTest::walkRefused);
        sentence("NoSuchElementException (ahead): no such PERSON, place in the WALK, PLACE.", BoundsOfDaysTest::noSuchWalk);
        sentence("a THING is DYED (another ODD).", BoundsOfDaysTest::dye);
        sentence("NONE (STATUS 1): not 0 to 9.", BoundsOfDaysTest::dyeRefused);
        sentence("They are UNDONE, the last one first.", BoundsOfDaysTest::lastOneFirst);
        sentence("The last ACT is UNDONE: how many are left. NONE: there is none.", BoundsOfDaysTest::noneToUndo);
        sentence("1 of ACTS,", BoundsOfDaysTest::statusOfActs);
    }

    private static void images() {
        sentence("are kept as an image, in place of another one.", BoundsOfDaysTest::inPlaceOfAnother);
        sentence("They are as the image again: true.", BoundsOfDaysTest::asTheImage);
        sentence("False: there is none.", BoundsOfDaysTest::noImage);
    }

    private static void walkComesRound() {
        WornThings x = of("places 6;person 0 0 1 2 3 4 5;person 0 5 4;person 0 3;blind 0 0 1 2 3 4;");
        for (int k = 1; k <= 100; k++) {
            due("six, day " + k, x.where(0, k, 0), (k - 1) % 6);
            due("two, day " + k, x.where(1, k, 0), 5 - (k - 1) % 2);
        }
        for (int k = 1; k <= 100; k++) {
            due("one, day " + k, x.where(2, k, 0), 3);
            due("five, day " + k, x.where(3, k, 0), (k - 1) % 5);
        }
        x.days(5);
        due("the last place", x.person(0, 1), 5);
        x.days(1);
        due("the first one again", x.person(0, 1), 0);
        due("five of six", x.person(3, 1), 1);
    }

    private static void isWorn() {
        WornThings x = of("person 0 0;person 0 0;thing 1 0 1;thing 1 0 1 by 0;");
        due("one of two", x.count(5), 2);
        x.steal(0, 0);
        due("both", x.count(5), 3);
        x.back(1);
        due("the first", x.count(5), 1);
        WornThings all = of("person 0 0;person 0 0;" + times("thing 1 0 1 by 0;", 10));
        due("all ten", all.count(5), 1023);
        due("none", of("person 0 0;" + times("thing 1 0 0;", 10)).count(5), 0);
    }

    private static void look() {
        WornThings x = of("person 0 0 1;person 0 0;blind 0 0;person 0 1;person 0 0 2;");
        due("others, not oneself, not the blind, not elsewhere", x.where(0, 1, 1), 2 + 16);
        due("of that day", x.where(0, 2, 1), 8);
        due("the blind are looked at", x.where(2, 1, 1), 1 + 2 + 16);
        due("nobody", x.where(4, 2, 1), 0);
        due("all eight", of(times("person 0 0;", 8)).where(7, 1, 1), 127);
        due("all eight", of(times("person 0 0;", 8)).where(0, 1, 1), 254);
        due("one alone", of("person 0 0;").where(0, 1, 1), 0);
    }

    private static void shameOfADay(String rule, int want) {
        WornThings x = of("person 0 0;person 0 1;thing 1 0 1 by 0;shames " + rule + ";returns 0;");
        due("kept of " + rule, x.thing(0, 5), want);
        x.days(1);
        due("shame by " + rule, x.person(0, 2), want);
    }

    private static void keptToTwenty() {
        shameOfADay("0-1", 0);
        shameOfADay("0-9999", 0);
        shameOfADay("0", 0);
        shameOfADay("1", 1);
        shameOfADay("19", 19);
        shameOfADay("20", 20);
        shameOfADay("21", 20);
        shameOfADay("9999", 20);
        shameOfADay("256*256*256*128", 0);
        shameOfADay("256*256*256*128-1", 20);
        WornThings two = of("person 0 0;person 0 1;thing 1 0 1 by 0;thing 1 1 1 by 0;shames 21-odd*40;returns 0;");
        two.days(1);
        due("each by itself", two.person(0, 2), 20);
    }

    private static void withoutShames() {
        String eyes = times("person 0 0;", 7);
        WornThings most = of("person 0 0;" + eyes + "thing 1 9 1 by 0;");
        due("9 and 7 less 0", most.thing(0, 5), 16);
        WornThings least = of("person 9 0;" + eyes + "thing 1 0 1 by 0;");
        due("0 and 7 less 9 is kept to 0", least.thing(0, 5), 0);
        least.days(1);
        due("no shame", least.person(0, 2), 0);
        due("0 and 1 less 1", of("person 1 0;person 0 0;thing 1 0 1 by 0;").thing(0, 5), 0);
        due("1 and 1 less 1", of("person 1 0;person 0 0;thing 1 1 1 by 0;").thing(0, 5), 1);
        due("9 and 0 less 9", of("person 9 0;person 0 1;thing 1 9 1 by 0;").thing(0, 5), 0);
        most.days(1);
        due("16", most.person(0, 2), 16);
    }

    private static void shameAtMost() {
        WornThings x = of(ALONE + "shames 14;returns 0;");
        x.days(7);
        due("98", x.person(0, 2), 98);
        x.days(1);
        due("99 at most", x.person(0, 2), 99);
        x.days(20);
        due("99 still", x.person(0, 2), 99);
        WornThings y = of(ALONE + "shames 11;returns 0;");
        y.days(9);
        due("99 exactly", y.person(0, 2), 99);
        y.days(1);
        due("and not more", y.person(0, 2), 99);
        WornThings z = of("person 0 0;person 0 1;" + times("thing 1 0 1 by 0;", 10) + "shames 20;returns 0;");
        z.days(1);
        due("ten things on one day", z.person(0, 2), 99);
    }

    private static void somebodyLooks() {
        WornThings x = of(SEEN + "term 99;returns 0;");
        x.days(3);
        due("seen on each", x.thing(0, 4), 3);
        WornThings y = of(ALONE + "term 99;returns 0;");
        y.days(3);
        due("never seen", y.thing(0, 4), 0);
        WornThings z = of("person 0 0;blind 0 0;thing 1 0 1 by 0;term 99;returns 0;");
        z.days(3);
        due("the blind don't look", z.thing(0, 4), 0);
        WornThings w = of("person 0 0;person 0 0 1;thing 1 0 1 by 0;term 99;returns 0;");
        w.days(5);
        due("seen on the first, third and fifth", w.thing(0, 4), 3);
        WornThings v = of("person 0 0;person 0 0;person 0 0;thing 1 0 1 by 0;term 99;returns 0;");
        v.days(3);
        due("one more, by how many ever", v.thing(0, 4), 3);
        due("a thing that isn't worn has none", of("person 0 0;person 0 0;thing 1 0 1;").then(0, 100, 2), 0);
    }

    private static void asManyAsTerm() {
        for (int term : new int[] {1, 2, 98, 99}) {
            WornThings x = of("person 9 0;person 9 0;thing 1 0 1 by 0;term " + term + ";");
            due("a day less", x.then(0, term - 1, 1), 1);
            due("its days", x.then(0, term - 1, 2), term - 1);
            due("as many", x.then(0, term, 1), 0);
        }
        WornThings y = of("person 9 0;person 9 0;thing 1 0 1 by 0;");
        due("9 of 10, without", y.then(0, 9, 1), 1);
        due("10 of 10, without", y.then(0, 10, 1), 0);
    }

    private static void ownFromThenOn() {
        WornThings x = of(SEEN + "term 2;");
        x.days(2);
        due("owner", x.thing(0, 2), 0);
        due("nobody wears it", x.thing(0, 3), -1);
        due("days", x.thing(0, 4), 0);
        due("it is one's own", x.steal(0, 0), -2);
        due("the one who owned it may steal it", x.steal(1, 0), -1);
        x.days(2);
        due("and owns it again", x.thing(0, 2), 1);
    }

    private static void wearsStill() {
        WornThings x = of("person 0 0;person 0 0;thing 1 0 1 by 0;thing 1 0 1;term 2;shames 20;");
        x.days(1);
        x.steal(0, 1);
        x.days(1);
        due("one's own, in spite of the shame", x.thing(0, 2), 0);
        due("the other one is given back", x.thing(1, 3), -1);
        due("to its owner", x.thing(1, 2), 1);
        due("shame", x.person(0, 2), 0);
        WornThings y = of("person 0 0;person 0 0;thing 1 0 1 by 0;term 2;shames 20;");
        y.days(2);
        due("one's own", y.thing(0, 2), 0);
        due("nothing is worn still, so nothing is given back", y.person(0, 2), 38);
        WornThings z = of(SEEN + "term 1;shames 9;returns many=0;");
        z.days(1);
        due("who wears nothing isn't asked", z.person(0, 2), 7);
    }

    private static void moreThanNothing() {
        due("0", of(SEEN + "returns 0;term 99;").when(0, 1), -1);
        due("1", of(SEEN + "returns 1;term 99;").when(0, 1), 1);
        due("-1", of(SEEN + "returns 0-1;term 99;").when(0, 1), -1);
        due("2", of(SEEN + "returns 2;term 99;").when(0, 1), 1);
        due("the least int", of(SEEN + "returns 256*256*256*128;term 99;").when(0, 1), -1);
        due("the greatest int", of(SEEN + "returns 256*256*256*128-1;term 99;").when(0, 1), 1);
        due("by the shame of this evening", of(SEEN + "shames 5;returns shame-5;term 99;").when(0, 1), 2);
        due("40 is nothing by this rule", of(SEEN + "shames 20;returns 80<shame;term 99;").when(0, 1), 5);
    }

    private static void fortyOrMore() {
        WornThings x = of(ALONE + "shames 13;");
        x.days(3);
        due("39", x.person(0, 2), 39);
        due("still worn", x.thing(0, 3), 0);
        x.days(1);
        due("52 is given back", x.thing(0, 3), -1);
        WornThings y = of(ALONE + "shames 20;");
        y.days(1);
        due("20", y.thing(0, 3), 0);
        y.days(1);
        due("40 is given back", y.thing(0, 3), -1);
        WornThings z = of(ALONE + "shames 8;");
        due("32 and 40", z.when(0, 1), 5);
    }

    private static void givesBackAll() {
        WornThings x = of("person 0 0;person 0 0;person 0 0;thing 1 0 1 by 0;thing 1 0 2 by 0;thing 1 0 0 by 1;"
            + "shames 10*odd+20;term 99;returns shame/40 and vanity=0;");
        x.days(1);
        due("those of the first alone", x.count(5), 4);
        due("their owners stay", x.thing(0, 2) * 10 + x.thing(1, 2), 12);
        due("their days", x.thing(0, 4) + x.thing(1, 4), 0);
        due("shame 0", x.person(0, 2), 0);
        due("the second one's stays", x.person(1, 2), 20);
        due("its days", x.thing(2, 4), 1);
        WornThings y = of("person 3 0;person 5 1;thing 1 0 1 by 0;thing 1 0 0 by 1;shames 7;returns vanity=3;");
        y.days(1);
        due("by the vanity of each", y.count(5), 2);
        WornThings z = of("person 3 0;person 5 1;thing 1 0 1 by 0;thing 1 0 0 by 1;shames 7;returns vanity=5;");
        z.days(1);
        due("by the vanity of each", z.count(5), 1);
    }

    private static void twoLess() {
        WornThings x = of(SEEN + "term 1;shames 5;");
        x.days(1);
        due("5 less 2", x.person(0, 2), 3);
        x.days(1);
        due("3 less 2", x.person(0, 2), 1);
        x.days(1);
        due("not below 0", x.person(0, 2), 0);
        x.days(20);
        due("nor later", x.person(0, 2), 0);
        WornThings y = of(SEEN + "term 1;shames 2;");
        y.days(1);
        due("2 less 2 on the very day", y.person(0, 2), 0);
        WornThings z = of(ALONE + "thing 1 0 1;shames 4;");
        z.days(1);
        z.back(0);
        due("the act leaves it", z.person(0, 2), 4);
        z.days(1);
        due("the day does not", z.person(0, 2), 2);
        WornThings w = of(ALONE + "shames 5;");
        w.days(2);
        due("who wears something has not less", w.person(0, 2), 10);
    }

    private static void oneMoreDay() {
        WornThings x = of(ALONE + "shames day;returns 0;");
        due("day 0", x.count(4), 0);
        due("a day", x.days(1), 1);
        due("shame by day 0", x.person(0, 2), 0);
        due("a day", x.days(1), 2);
        due("shame by day 1", x.person(0, 2), 1);
        due("twenty days", x.days(20), 22);
        due("without people", new WornThings().days(20), 20);
    }

    private static void fortyActs() {
        WornThings x = of(SMALL);
        for (int i = 1; i <= 45; i++) {
            x.dye(0, i % 10);
            due("kept", x.count(8), Math.min(i, 40));
        }
        for (int i = 39; i >= 0; i--) {
            due("left", x.undo(), i);
        }
        due("none is left", x.undo(), -1);
        due("as behind the fifth", x.thing(0, 1), 5);
        WornThings y = of(SMALL);
        for (int i = 1; i <= 40; i++) {
            y.dye(0, i % 10);
        }
        for (int i = 39; i >= 0; i--) {
            due("left", y.undo(), i);
        }
        due("as at first", y.thing(0, 1), 4);
        due("none is left", y.undo(), -1);
        // forty again, behind some that were undone: the row has come round
        for (int i = 1; i <= 41; i++) {
            y.dye(1, i % 10);
        }
        due("kept", y.count(8), 40);
        for (int i = 40; i >= 1; i--) {
            y.undo();
            due("one by one", y.thing(1, 1), i % 10);
        }
        due("the first is not kept", y.undo(), -1);
    }

    private static void oneToTwenty() {
        due("1", of(SMALL).days(1), 1);
        due("20", of(SMALL).days(20), 20);
        WornThings x = of(SMALL);
        WornThings y = of(SMALL);
        x.days(20);
        due("an act", x.count(8), 1);
        for (int i = 0; i < 20; i++) {
            y.days(1);
        }
        due("twenty acts", y.count(8), 20);
        for (int t = 0; t < 3; t++) {
            for (int what = 1; what <= 4; what++) {
                due("the same days", x.thing(t, what), y.thing(t, what));
            }
        }
        due("all undone at once", x.undo(), 0);
        due("day 0", x.count(4), 0);
    }

    private static void lastDay() {
        for (int many : new int[] {0, 21, -1, -20, 100, LEAST_INT, GREATEST_INT}) {
            refused("days(" + many + ")", x -> x.days(many), -1, 1);
        }
        WornThings x = of("person 0 0 1 2 1;");
        for (int i = 0; i < 499; i++) {
            x.days(20);
        }
        due("day 9980", x.count(4), 9980);
        due("10000 is too much", x.days(20), -1);
        due("the day stays", x.count(4), 9980);
        due("9999", x.days(19), 9999);
        due("10000 again", x.days(1), -1);
        due("the day stays", x.count(4), 9999);
        // what would be may lie behind the last day
        due("its place", x.person(0, 1), 1);
    }

    private static void mayNotSteal() {
        WornThings x = of("person 0 0;person 0 0;person 0 0;thing 1 0 1 by 0;thing 1 0 1;");
        due("one's own, worn by another", x.steal(1, 0), -2);
        due("one's own, at home", x.steal(1, 1), -2);
        due("one wears it", x.steal(0, 0), -2);
        due("another one's", x.steal(0, 1), -1);
        due("worn by another", x.steal(2, 0), 0);
        due("and back again", x.steal(0, 0), 2);
    }

    private static void stealsFrom() {
        WornThings x = of("person 0 0;person 0 0;person 0 0;thing 1 0 1 by 0;shames 7;term 99;");
        x.days(3);
        due("days", x.thing(0, 4), 3);
        due("from who wears it", x.steal(2, 0), 0);
        due("who wears it now", x.thing(0, 3), 2);
        due("owner stays", x.thing(0, 2), 1);
        due("days are 0", x.thing(0, 4), 0);
        due("shame of the one", x.person(0, 2), 21);
        due("shame of the other", x.person(2, 2), 0);
        x.days(1);
        due("two less", x.person(0, 2), 19);
        due("seven more", x.person(2, 2), 7);
        x.back(0);
        due("from its owner", x.steal(0, 0), -1);
        due("shame stays", x.person(0, 2), 19);
        due("the owner has none", x.person(1, 2), 0);
    }

    private static void stealRefused() {
        refused("steal of one's own", x -> x.steal(2, 2), -2, 1);
        refused("steal of one's own that is worn", x -> x.steal(1, 0), -2, 1);
        refused("steal of what one wears", x -> x.steal(0, 0), -2, 1);
        refused("steal of what one stole", x -> x.steal(2, 1), -2, 1);
    }

    private static void back() {
        WornThings x = of(SEEN + "shames 3;term 99;");
        due("no days yet", of(SEEN).back(0), 0);
        x.days(4);
        due("its days", x.back(0), 4);
        due("days", x.thing(0, 4), 0);
        due("not worn", x.thing(0, 3), -1);
        due("its owner", x.thing(0, 2), 1);
        due("shame stays", x.person(0, 2), 12);
        due("two acts", x.count(8), 2);
    }

    private static void backRefused() {
        WornThings x = of(SEEN);
        due("worn", x.back(0), 0);
        due("not worn any more", x.back(0), -1);
        due("refused", x.count(12), 1);
        due("one act", x.count(8), 1);
        WornThings y = busy();
        y.back(1);
        WornThings z = busy();
        z.back(1);
        due("refused", y.back(1), -1);
        alike("back of what isn't worn", y, z, "count 12");
    }

    private static void walkFromThisDayOn() {
        WornThings x = of("person 0 0 1;");
        x.days(2);
        due("as it was", x.walk(0, 0, 2), 0);
        due("this day", x.person(0, 1), 2);
        due("this day", x.where(0, 1, 0), 2);
        due("the next one", x.where(0, 2, 0), 1);
        due("the one behind", x.where(0, 3, 0), 2);
        due("as it was", x.walk(0, 1, 0), 1);
        due("the next one", x.where(0, 2, 0), 0);
        due("two acts more", x.count(8), 3);
        WornThings last = of("places 6;person 0 0 0 0 0 0 0;");
        due("the last place", last.walk(0, 5, 5), 0);
        due("the sixth day", last.where(0, 6, 0), 5);
        due("no other day", last.where(0, 5, 0) + last.where(0, 7, 0), 0);
    }

    private static void walkRefused() {
        refused("walk to where it is", x -> x.walk(0, 1, 1), -1, 1);
        refused("walk to where it is now", x -> x.walk(0, 0, 2), -1, 1);
        WornThings x = of("person 0 0;");
        due("another one", x.walk(0, 0, 1), 0);
        due("that one", x.walk(0, 0, 1), -1);
        due("the first one again", x.walk(0, 0, 0), 1);
    }

    private static void noSuchWalk() {
        for (int n : new int[] {-1, 3, LEAST_INT, GREATEST_INT}) {
            changesNothing("person " + n, x -> x.walk(n, 0, 0), 1);
            changesNothing("place " + n, x -> x.walk(0, 0, n), 1);
            changesNothing("i " + n, x -> x.walk(0, n, 0), 1);
        }
        changesNothing("i 2 of 2", x -> x.walk(0, 2, 2), 1);
        changesNothing("i 1 of 1", x -> x.walk(1, 1, 0), 1);
        // ahead of the refusal: where it is that one, but for one wrong number
        changesNothing("a place of another walk", x -> x.walk(1, 5, 0), 1);
        due("the last i and PLACE", of("places 2;person 0 0 0;").walk(0, 1, 1), 0);
    }

    private static void dye() {
        WornThings x = of(SMALL);
        due("as it was", x.dye(0, 9), 4);
        due("9", x.thing(0, 1), 9);
        due("as it was", x.dye(0, 0), 9);
        due("0", x.thing(0, 1), 0);
        due("two acts", x.count(8), 2);
        due("shame by it", x.thing(0, 5), 0);
    }

    private static void dyeRefused() {
        for (int odd : new int[] {-1, 10, LEAST_INT, GREATEST_INT}) {
            refused("dye " + odd, x -> x.dye(0, odd), -1, 1);
        }
        due("0", of(SMALL).dye(0, 0), 4);
        due("9", of(SMALL).dye(0, 9), 4);
    }

    private static void lastOneFirst() {
        WornThings days = busy();
        days.days(20);
        due("left", days.undo(), 4);
        alike("days undone", days, busy());
        WornThings steal = busy();
        steal.steal(0, 2);
        steal.undo();
        alike("steal undone", steal, busy());
        WornThings back = busy();
        back.back(0);
        back.undo();
        alike("back undone", back, busy());
        WornThings walk = busy();
        walk.walk(2, 1, 1);
        walk.undo();
        alike("walk undone", walk, busy());
        WornThings dye = busy();
        dye.dye(2, 9);
        dye.undo();
        alike("dye undone", dye, busy());
        WornThings own = of(SEEN + "term 1;shames 9;");
        own.days(1);
        due("own", own.thing(0, 2), 0);
        own.undo();
        due("not own", own.thing(0, 2), 1);
        due("worn", own.thing(0, 3), 0);
        due("no shame", own.person(0, 2), 0);
        greatestNumbers();
    }

    /** All numbers as great as they may be come back by UNDO and by the image. */
    private static void greatestNumbers() {
        String text = "places 6;" + times("person 9 5 5 5 5 5 5;", 8) + times("thing 30 9 7 by 6;", 9) + "thing 30 9 6 by 7;"
            + "term 99;shames 20;returns 0;";
        WornThings x = of(text);
        WornThings y = of(text);
        for (int i = 0; i < 5; i++) {
            x.days(i < 4 ? 20 : 18);
            y.days(i < 4 ? 20 : 18);
        }
        due("98 days", x.thing(9, 4), 98);
        due("99 of shame", x.person(6, 2), 99);
        x.image();
        y.image();
        for (int p = 0; p < 8; p++) {
            x.walk(p, p % 6, 0);
        }
        x.dye(9, 0);
        x.days(1);
        due("own", x.thing(9, 2), 7);
        for (int i = 0; i < 10; i++) {
            x.undo();
        }
        due("as many acts", x.count(8), 5);
        for (int round = 0; round < 2; round++) {
            for (int p = 0; p < 8; p++) {
                due("shame", x.person(p, 2), y.person(p, 2));
                for (int k = 1; k <= 6; k++) {
                    due("place", x.where(p, k, 0), 5);
                }
            }
            for (int t = 0; t < 10; t++) {
                for (int what = 1; what <= 4; what++) {
                    due("thing", x.thing(t, what), y.thing(t, what));
                }
            }
            x.days(1);
            due("restored", x.restore() ? 1 : 0, 1);
        }
    }

    private static void noneToUndo() {
        WornThings x = of(SMALL);
        due("none", x.undo(), -1);
        due("nothing counts as refused", x.count(11) + x.count(12) + x.count(13), 0);
        x.days(0);
        x.back(1);
        due("what was refused can't be undone", x.undo(), -1);
        x.days(1);
        x.days(1);
        due("one is left", x.undo(), 1);
        due("none is left", x.undo(), 0);
        due("none", x.undo(), -1);
        due("day 0", x.count(4), 0);
        due("new", new WornThings().undo(), -1);
    }

    private static void statusOfActs() {
        WornThings x = of(SMALL);
        x.days(0);
        due("days", x.count(12), 1);
        x.steal(0, 0);
        due("steal", x.count(12), 2);
        x.back(1);
        due("back", x.count(12), 3);
        x.walk(0, 0, 0);
        due("walk", x.count(12), 4);
        x.dye(0, 10);
        due("dye", x.count(12), 5);
        x.undo();
        due("not undo", x.count(12), 5);
        none("steal", () -> x.steal(3, 0));
        none("walk", () -> x.walk(0, 2, 0));
        due("not what throws", x.count(12), 5);
        x.days(1);
        x.steal(2, 1);
        x.back(1);
        x.walk(0, 0, 1);
        x.dye(0, 5);
        due("not what is done", x.count(12), 5);
        due("no text, nothing noted", x.count(11) + x.count(13), 0);
    }

    private static void inPlaceOfAnother() {
        WornThings x = of(SMALL);
        x.image();
        x.days(1);
        x.image();
        x.days(1);
        due("restored", x.restore() ? 1 : 0, 1);
        due("the latest one", x.count(4), 1);
        due("its acts", x.count(8), 1);
        WornThings y = busy();
        y.image();
        WornThings z = busy();
        z.image();
        y.days(7);
        y.forget();
        y.note(2, 5, false);
        y.walk(1, 0, 2);
        y.dye(2, 9);
        y.back(0);
        y.restore();
        alike("image", y, z);
    }

    private static void asTheImage() {
        WornThings x = busy();
        x.days(20);
        x.undo();
        x.undo();
        due("restored", x.restore() ? 1 : 0, 1);
        WornThings y = busy();
        y.restore();
        alike("as the image", x, y);
        WornThings z = busy();
        z.restore();
        z.restore();
        WornThings w = busy();
        w.restore();
        alike("restored twice", z, w);
        WornThings forty = of(SMALL);
        for (int i = 1; i <= 43; i++) {
            forty.dye(0, i % 10);
        }
        forty.image();
        for (int i = 0; i < 40; i++) {
            forty.undo();
        }
        due("3", forty.thing(0, 1), 3);
        forty.restore();
        due("forty again", forty.count(8), 40);
        due("left", forty.undo(), 39);
        due("the forty-second", forty.thing(0, 1), 2);
        otherActsAndNotes();
    }

    /** What comes behind the image takes the room of its acts and of what is noted, and all of it comes back. */
    private static void otherActsAndNotes() {
        WornThings x = of("person 5 0;person 0 1;thing 1 9 1;thing 1 9 1 by 0;");
        for (int i = 1; i <= 43; i++) {
            x.dye(0, i % 10);
        }
        // shame is 4 a day: given back behind 10 days
        x.note(1, 9, true);
        x.note(1, 10, false);
        x.image();
        x.forget();
        x.note(0, 0, false);
        x.note(0, 3, true);
        due("another thing is noted", x.vain(2), 0);
        for (int i = 0; i < 55; i++) {
            x.dye(0, 5);
        }
        x.restore();
        due("so without", x.vain(2), 1);
        due("the other one's nine", x.vain(0), 9);
        due("acts", x.count(8), 40);
        for (int i = 42; i >= 3; i--) {
            due("left", x.undo(), i - 3);
            due("odd as it was", x.thing(0, 1), i % 10);
        }
        due("none is left", x.undo(), -1);
    }

    private static void noImage() {
        WornThings x = new WornThings();
        due("new", x.restore() ? 1 : 0, 0);
        x.image();
        due("kept", x.restore() ? 1 : 0, 1);
        due("kept still", x.restore() ? 1 : 0, 1);
        tell(x, "");
        due("gone with another city", x.restore() ? 1 : 0, 0);
        WornThings y = of(SMALL);
        y.days(3);
        WornThings z = of(SMALL);
        z.days(3);
        due("none", y.restore() ? 1 : 0, 0);
        alike("nothing changes", y, z);
        WornThings w = of(SMALL);
        w.image();
        tell(w, "x");
        due("a fault leaves it", w.restore() ? 1 : 0, 1);
    }
}
