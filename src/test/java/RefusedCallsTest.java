import java.util.function.ToLongFunction;

/** Calls that throw: which exception, in which order where a call could throw two, and that nothing changes by them. */
public final class RefusedCallsTest extends Checks {
    private static final int NO_SUCH = 1;
    private static final int ILLEGAL = 2;
    /** Neither PEOPLE nor THINGS of a busy object, which has three of each. */
    private static final int[] NOBODY = {-1, 3, LEAST_INT, GREATEST_INT};
    private static final int[] NOT_TO_100 = {-1, 101, LEAST_INT, GREATEST_INT};
    private static final int[] NOT_FROM_1_TO_100 = {-1, 0, 101, LEAST_INT, GREATEST_INT};

    public static void main(String[] args) {
        sentence("NoSuchElementException: another what.", RefusedCallsTest::anotherWhat);
        sentence("NoSuchElementException: also another what.", RefusedCallsTest::alsoAnotherWhat);
        sentence("no such PERSON (as everywhere), what.", RefusedCallsTest::noSuchPerson);
        sentence("no such THING (as everywhere), what.", RefusedCallsTest::noSuchThing);
        sentence("IllegalArgumentException (behind that): not 0 to 100.", RefusedCallsTest::notToHundred);
        sentence("IllegalArgumentException (behind that): not 1 to 100.", RefusedCallsTest::notFromOneToHundred);
        sentence("IllegalArgumentException: not 1 to 100.", RefusedCallsTest::watch);
        sentence("IllegalArgumentException: not 0 to 100.", RefusedCallsTest::quiet);
        sentence("IllegalArgumentException (behind NoSuchElementException): not 0 to 100.", RefusedCallsTest::has);
        sentence("IllegalArgumentException (behind NoSuchElementException): not 1 to 99.", RefusedCallsTest::shamed);
        sentence("IllegalArgumentException (behind NoSuchElementException): days, tenths.", RefusedCallsTest::fog);
        sentence("IllegalArgumentException (behind that): both are one.", RefusedCallsTest::game);
        sentence("IllegalArgumentException (behind that): n.", RefusedCallsTest::years);
        sentence("NoSuchElementException: no such THING.", RefusedCallsTest::least);
        sentence("NoSuchElementException (ahead): no such THING.", RefusedCallsTest::actsAndNotes);
        sentence("(If only DAYS go by, from now on:)", RefusedCallsTest::askingChangesNothing);
        sentence("Nothing is promised beyond the answers and state changes described above", RefusedCallsTest::withoutPeople);
        finish("RefusedCallsTest");
    }

    private static void anotherWhat() {
        for (int bad : new int[] {-1, LEAST_INT, GREATEST_INT}) {
            changesNothing("count " + bad, x -> x.count(bad), NO_SUCH);
            changesNothing("all " + bad, x -> x.all(5, bad), NO_SUCH);
            changesNothing("vain " + bad, x -> x.vain(bad), NO_SUCH);
            changesNothing("ask " + bad, x -> x.ask(bad), NO_SUCH);
            changesNothing("years " + bad, x -> x.years(1, 5, bad), NO_SUCH);
            changesNothing("walks " + bad, x -> x.walks(5, bad), NO_SUCH);
        }
        changesNothing("count 13", x -> x.count(13), 0);
        changesNothing("count 14", x -> x.count(14), NO_SUCH);
        changesNothing("all 3", x -> x.all(5, 3), 0);
        changesNothing("all 4", x -> x.all(5, 4), NO_SUCH);
        changesNothing("vain 2", x -> x.vain(2), 0);
        changesNothing("vain 3", x -> x.vain(3), NO_SUCH);
        changesNothing("ask 1", x -> x.ask(1), 0);
        changesNothing("ask 2", x -> x.ask(2), NO_SUCH);
        changesNothing("years 2", x -> x.years(1, 5, 2), 0);
        changesNothing("years 3", x -> x.years(1, 5, 3), NO_SUCH);
        changesNothing("walks 1", x -> x.walks(5, 1), 0);
        changesNothing("walks 2", x -> x.walks(5, 2), NO_SUCH);
    }

    private static void alsoAnotherWhat() {
        for (int bad : new int[] {-1, LEAST_INT, GREATEST_INT}) {
            changesNothing("then " + bad, x -> x.then(0, 5, bad), NO_SUCH);
            changesNothing("later " + bad, x -> x.later(0, 5, bad), NO_SUCH);
            changesNothing("when " + bad, x -> x.when(0, bad), NO_SUCH);
            changesNothing("where " + bad, x -> x.where(0, 5, bad), NO_SUCH);
            changesNothing("toStand " + bad, x -> x.toStand(0, bad), NO_SUCH);
            changesNothing("toStand, not worn " + bad, x -> x.toStand(1, bad), NO_SUCH);
            changesNothing("toSteal " + bad, x -> x.toSteal(0, bad), NO_SUCH);
            changesNothing("game " + bad, x -> x.game(0, 1, bad), NO_SUCH);
        }
        changesNothing("then 2", x -> x.then(0, 5, 2), 0);
        changesNothing("then 3", x -> x.then(0, 5, 3), NO_SUCH);
        changesNothing("later 1", x -> x.later(0, 5, 1), 0);
        changesNothing("later 2", x -> x.later(0, 5, 2), NO_SUCH);
        changesNothing("when 1", x -> x.when(0, 1), 0);
        changesNothing("when 2", x -> x.when(0, 2), NO_SUCH);
        changesNothing("where 1", x -> x.where(0, 5, 1), 0);
        changesNothing("where 2", x -> x.where(0, 5, 2), NO_SUCH);
        changesNothing("toStand 1", x -> x.toStand(0, 1), 0);
        changesNothing("toStand 2", x -> x.toStand(0, 2), NO_SUCH);
        changesNothing("toSteal 1", x -> x.toSteal(0, 1), 0);
        changesNothing("toSteal 2", x -> x.toSteal(0, 2), NO_SUCH);
        changesNothing("game 1", x -> x.game(0, 1, 1), 0);
        changesNothing("game 2", x -> x.game(0, 1, 2), NO_SUCH);
    }

    private static void noSuchPerson() {
        for (int p : NOBODY) {
            changesNothing("person " + p, x -> x.person(p, 0), NO_SUCH);
            changesNothing("steal " + p, x -> x.steal(p, 0), NO_SUCH);
            changesNothing("walk " + p, x -> x.walk(p, 0, 1), NO_SUCH);
            changesNothing("later " + p, x -> x.later(p, 5, 0), NO_SUCH);
            changesNothing("where " + p, x -> x.where(p, 5, 0), NO_SUCH);
            changesNothing("toSteal " + p, x -> x.toSteal(p, 0), NO_SUCH);
            changesNothing("whose " + p, x -> x.whose(p), NO_SUCH);
            changesNothing("game " + p, x -> x.game(p, 0, 0), NO_SUCH);
            changesNothing("game of " + p, x -> x.game(0, p, 0), NO_SUCH);
            changesNothing("meet " + p, x -> x.meet(p, 0), NO_SUCH);
            changesNothing("meet of " + p, x -> x.meet(0, p), NO_SUCH);
            changesNothing("shamed " + p, x -> x.shamed(p, 5), NO_SUCH);
            changesNothing("has " + p, x -> x.has(p, 5), NO_SUCH);
            changesNothing("takes " + p, x -> x.takes(p, 0), NO_SUCH);
            changesNothing("takes of " + p, x -> x.takes(0, p), NO_SUCH);
        }
        changesNothing("the last one", x -> x.person(2, 8), 0);
        changesNothing("one more what", x -> x.person(2, 9), NO_SUCH);
    }

    private static void noSuchThing() {
        for (int t : NOBODY) {
            changesNothing("thing " + t, x -> x.thing(t, 0), NO_SUCH);
            changesNothing("steal " + t, x -> x.steal(0, t), NO_SUCH);
            changesNothing("back " + t, x -> x.back(t), NO_SUCH);
            changesNothing("dye " + t, x -> x.dye(t, 5), NO_SUCH);
            changesNothing("then " + t, x -> x.then(t, 5, 0), NO_SUCH);
            changesNothing("when " + t, x -> x.when(t, 0), NO_SUCH);
            changesNothing("toStand " + t, x -> x.toStand(t, 0), NO_SUCH);
            changesNothing("note " + t, x -> x.note(t, 5, true), NO_SUCH);
            changesNothing("fog " + t, x -> x.fog(t, 5, 5), NO_SUCH);
            changesNothing("faced " + t, x -> x.faced(t), NO_SUCH);
        }
        changesNothing("the last one", x -> x.thing(2, 5), 0);
        changesNothing("one more what", x -> x.thing(2, 6), NO_SUCH);
    }

    private static void notToHundred() {
        for (int days : NOT_TO_100) {
            changesNothing("then behind " + days, x -> x.then(0, days, 0), ILLEGAL);
            changesNothing("then, thing first", x -> x.then(3, days, 0), NO_SUCH);
            changesNothing("then, what first", x -> x.then(0, days, 3), NO_SUCH);
            changesNothing("later behind " + days, x -> x.later(0, days, 0), ILLEGAL);
            changesNothing("later, person first", x -> x.later(3, days, 0), NO_SUCH);
            changesNothing("later, what first", x -> x.later(0, days, 2), NO_SUCH);
            changesNothing("all behind " + days, x -> x.all(days, 0), ILLEGAL);
            changesNothing("all, what first", x -> x.all(days, 4), NO_SUCH);
        }
        for (int days : new int[] {0, 100}) {
            changesNothing("then behind " + days, x -> x.then(0, days, 0), 0);
            changesNothing("later behind " + days, x -> x.later(0, days, 0), 0);
            changesNothing("all behind " + days, x -> x.all(days, 0), 0);
        }
    }

    private static void notFromOneToHundred() {
        for (int days : NOT_FROM_1_TO_100) {
            changesNothing("where in " + days, x -> x.where(0, days, 0), ILLEGAL);
            changesNothing("where, person first", x -> x.where(3, days, 0), NO_SUCH);
            changesNothing("where, what first", x -> x.where(0, days, 2), NO_SUCH);
            changesNothing("walks in " + days, x -> x.walks(days, 0), ILLEGAL);
            changesNothing("walks, what first", x -> x.walks(days, 2), NO_SUCH);
        }
        for (int days : new int[] {1, 100}) {
            changesNothing("where in " + days, x -> x.where(0, days, 1), 0);
            changesNothing("walks in " + days, x -> x.walks(days, 1), 0);
        }
    }

    private static void watch() {
        for (int days : NOT_FROM_1_TO_100) {
            changesNothing("watch of " + days, x -> x.watch(days), ILLEGAL);
        }
        changesNothing("watch of 1", x -> x.watch(1), 0);
        changesNothing("watch of 100", x -> x.watch(100), 0);
    }

    private static void quiet() {
        for (int days : NOT_TO_100) {
            changesNothing("quiet for " + days, x -> x.quiet(days), ILLEGAL);
        }
        changesNothing("quiet for 0", x -> x.quiet(0), 0);
        changesNothing("quiet for 100", x -> x.quiet(100), 0);
    }

    private static void has() {
        for (int days : NOT_TO_100) {
            changesNothing("has behind " + days, x -> x.has(0, days), ILLEGAL);
            changesNothing("has, person first", x -> x.has(3, days), NO_SUCH);
        }
        changesNothing("has behind 0", x -> x.has(0, 0), 0);
        changesNothing("has behind 100", x -> x.has(0, 100), 0);
    }

    private static void shamed() {
        for (int much : new int[] {-1, 0, 100, LEAST_INT, GREATEST_INT}) {
            changesNothing("shamed " + much, x -> x.shamed(0, much), ILLEGAL);
            changesNothing("shamed, person first", x -> x.shamed(3, much), NO_SUCH);
        }
        changesNothing("shamed 1", x -> x.shamed(0, 1), 0);
        changesNothing("shamed 99", x -> x.shamed(0, 99), 0);
    }

    private static void fog() {
        for (int days : new int[] {-1, 0, 6, LEAST_INT, GREATEST_INT}) {
            changesNothing("fog on " + days, x -> x.fog(0, days, 5), ILLEGAL);
            changesNothing("fog, thing first", x -> x.fog(3, days, 5), NO_SUCH);
        }
        for (int tenths : new int[] {-1, 11, LEAST_INT, GREATEST_INT}) {
            changesNothing("fog of " + tenths, x -> x.fog(0, 5, tenths), ILLEGAL);
            changesNothing("fog, thing first", x -> x.fog(-1, 5, tenths), NO_SUCH);
        }
        changesNothing("the least fog", x -> x.fog(0, 1, 0), 0);
        changesNothing("the most fog", x -> x.fog(0, 5, 10), 0);
    }

    private static void game() {
        for (int p = 0; p < 3; p++) {
            int who = p;
            changesNothing("both are " + p, x -> x.game(who, who, 0), ILLEGAL);
            changesNothing("both are " + p, x -> x.game(who, who, 1), ILLEGAL);
            changesNothing("both, what first", x -> x.game(who, who, 2), NO_SUCH);
            changesNothing("both, what first", x -> x.game(who, who, -1), NO_SUCH);
        }
        for (int p : NOBODY) {
            changesNothing("both, person first", x -> x.game(p, p, 0), NO_SUCH);
        }
        changesNothing("two", x -> x.game(0, 1, 0), 0);
        // one who wears nothing: what is looked at ahead of the answer
        WornThings y = of(SMALL);
        due("one wears nothing", y.game(0, 2, 0), -1);
        none("what", () -> y.game(0, 2, 2));
    }

    private static void years() {
        for (int n : NOT_TO_100) {
            changesNothing("years of " + n, x -> x.years(7, n, 0), ILLEGAL);
            changesNothing("years, what first", x -> x.years(7, n, 3), NO_SUCH);
        }
        changesNothing("years of 0", x -> x.years(7, 0, 0), 0);
        changesNothing("years of 100", x -> x.years(7, 100, 0), 0);
    }

    private static void least() {
        for (int t : new int[] {-2, 3, LEAST_INT, GREATEST_INT}) {
            changesNothing("least " + t, x -> x.least(t), NO_SUCH);
        }
        for (int t = -1; t < 3; t++) {
            int thing = t;
            changesNothing("least " + t, x -> x.least(thing), 0);
        }
    }

    private static void actsAndNotes() {
        // each would be refused too, if it were not for the THING or the PERSON
        changesNothing("note", x -> x.note(3, 31, true), NO_SUCH);
        changesNothing("dye", x -> x.dye(3, 10), NO_SUCH);
        changesNothing("steal", x -> x.steal(3, 3), NO_SUCH);
        changesNothing("back", x -> x.back(3), NO_SUCH);
        WornThings x = of(SMALL);
        none("note", () -> x.note(3, 31, true));
        none("dye", () -> x.dye(-1, 10));
        due("none is counted", x.count(11) + x.count(12) + x.count(13), 0);
    }

    private static void askingChangesNothing() {
        ToLongFunction<WornThings> all = x -> {
            long sum = x.then(0, 100, 1) + x.later(0, 100, 0) + x.when(0, 0) + x.when(2, 1) + x.all(100, 0) + x.all(50, 3);
            sum += x.where(0, 100, 1) + x.toStand(0, 0) + x.toSteal(0, 0) + x.watch(100) + x.least(0) + x.whose(0);
            sum += x.vain(0) + x.vain(2) + x.ask(0) + x.fog(0, 5, 5) + x.game(0, 1, 0) + x.years(5, 100, 0) + x.meet(0, 1);
            sum += x.faced(0) + x.walks(100, 0) + x.walks(100, 1) + x.shamed(0, 99) + x.has(0, 100) + x.takes(0, 1);
            return sum + x.quiet(100) + x.count(6) + x.person(0, 8) + x.thing(0, 5) + x.fault();
        };
        changesNothing("all that can be asked", all, 0);
        WornThings x = busy();
        due("asked twice it is the same", all.applyAsLong(x), all.applyAsLong(x));
    }

    /** On an object without PEOPLE and THINGS each call answers or throws as the document says. */
    private static void withoutPeople() {
        WornThings x = new WornThings();
        none("steal", () -> x.steal(0, 0));
        none("back", () -> x.back(0));
        none("walk", () -> x.walk(0, 0, 0));
        none("dye", () -> x.dye(0, 0));
        none("then", () -> x.then(0, 0, 0));
        none("later", () -> x.later(0, 0, 0));
        none("when", () -> x.when(0, 0));
        none("where", () -> x.where(0, 1, 0));
        none("toStand", () -> x.toStand(0, 0));
        none("toSteal", () -> x.toSteal(0, 0));
        none("least", () -> x.least(0));
        none("whose", () -> x.whose(0));
        none("note", () -> x.note(0, 0, true));
        none("fog", () -> x.fog(0, 1, 0));
        none("game", () -> x.game(0, 1, 0));
        none("game", () -> x.game(0, 0, 0));
        none("meet", () -> x.meet(0, 0));
        none("faced", () -> x.faced(0));
        none("shamed", () -> x.shamed(0, 1));
        none("has", () -> x.has(0, 0));
        none("takes", () -> x.takes(0, 0));
        due("watch", x.watch(100), 0);
        due("quiet", x.quiet(100), 0);
        due("least", x.least(-1), 0);
        due("days", x.days(20), 20);
        due("worn", x.all(100, 2), 0);
        due("changed", x.all(100, 3), 0);
        due("vain", x.vain(0) * 10 + x.vain(2), 1);
        due("ask", x.ask(0) * 10 + x.ask(1), -10);
        due("years", x.years(1, 100, 0) + x.years(1, 100, 1) + x.years(1, 100, 2), 0);
        due("walks", x.walks(1, 0) + x.walks(1, 1), 0);
        due("acts", x.undo(), 0);
    }
}
