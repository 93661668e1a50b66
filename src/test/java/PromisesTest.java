/** For each promise: ordinary inputs, the edges that the document names, wrong inputs. */
public final class PromisesTest extends Checks {
    public static void main(String[] args) {
        newObject();
        feed();
        cityAndFault();
        faultsOfLines();
        faultsOfRules();
        rules();
        count();
        person();
        thing();
        days();
        oneDay();
        steal();
        back();
        walk();
        dye();
        undo();
        then();
        later();
        when();
        all();
        where();
        toStand();
        toSteal();
        watch();
        least();
        whose();
        noteAndForget();
        vain();
        ask();
        fog();
        game();
        years();
        meet();
        faced();
        walks();
        shamed();
        has();
        takes();
        quiet();
        imageAndRestore();
        finish("PromisesTest");
    }

    private static void newObject() {
        WornThings x = new WornThings();
        int[] want = {3, 0, 0, 10, 0, 0, 0, 0, 0, 0, 0, 0, 0, 0};
        for (int i = 0; i < want.length; i++) {
            due("new count " + i, x.count(i), want[i]);
        }
        due("NONE", WornThings.NONE, -1);
        due("fault", x.fault(), -1);
        due("undo", x.undo(), -1);
        due("restore", x.restore() ? 1 : 0, 0);
        none("person", () -> x.person(0, 0));
        none("thing", () -> x.thing(0, 0));
    }

    private static void feed() {
        WornThings x = new WornThings();
        for (int i = 1; i <= 35; i++) {
            due("feed", x.feed(0, 0, 0, 0, 0), 20 * i);
        }
        due("feed too much", x.feed(0, 0, 0, 0, 0), -1);
        due("tape", x.count(10), 700);
        due("nothing refused", x.count(11) + x.count(12) + x.count(13), 0);
        WornThings y = new WornThings();
        // "term 7;" and behind it a byte above 127, which is beyond the n bytes
        y.feed('t' << 24 | 'e' << 16 | 'r' << 8 | 'm', ' ' << 24 | '7' << 16 | ';' << 8 | 200, -1, 0, 1);
        due("city of the first seven", y.city(7), 0);
        due("term", y.count(3), 7);
        due("tape is empty", y.count(10), 0);
    }

    private static void cityAndFault() {
        WornThings x = new WornThings();
        illegal("city(-1)", () -> x.city(-1));
        illegal("city(1)", () -> x.city(1));
        x.feed(0, 0, 0, 0, 0);
        illegal("city(21)", () -> x.city(21));
        illegal("city(MIN)", () -> x.city(Integer.MIN_VALUE));
        due("tape stays", x.count(10), 20);
        due("city of a zero byte", x.city(1), 1);
        due("its fault", x.fault(), 0);
        illegal("city(1) again", () -> x.city(1));
        due("its fault stays", x.fault(), 0);
        due("city of nothing", x.city(0), 0);
        due("no fault", x.fault(), -1);
        WornThings y = of(SMALL);
        y.days(1);
        y.note(0, 1, true);
        y.image();
        due("a fault", tell(y, "person 1 0;x"), 1);
        due("fault", y.fault(), 11);
        due("people stay", y.count(1), 3);
        due("day stays", y.count(4), 1);
        due("acts stay", y.count(8), 1);
        due("notes stay", y.count(9), 1);
        due("the image stays", y.restore() ? 1 : 0, 1);
        due("day refused", y.days(0), -1);
        due("another city", tell(y, "person 4 0;"), 0);
        int[] want = {3, 1, 0, 10, 0, 0, 0, 0, 0, 0, 0, 1, 1, 0};
        for (int i = 0; i < want.length; i++) {
            due("count anew " + i, y.count(i), want[i]);
        }
        due("no image", y.restore() ? 1 : 0, 0);
        String longest = "person 0 0;" + times(" \n", 344) + " ";
        due("700 bytes", longest.length(), 700);
        due("people of it", of(longest).count(1), 1);
        due("words and numbers side by side", of("places4;person7 3 0;thing5 4 0;").count(0), 4);
    }

    private static void faultsOfLines() {
        fault("x", 1, 0);
        fault("  \n x", 1, 4);
        fault("\t", 1, 0);
        fault("person 0 0;12345", 1, 11);
        fault("personx 0 0;", 1, 0);
        fault("Person 0 0;", 1, 0);
        fault("\u00e9", 1, 0);
        fault("glaces 2;", 1, 0);
        fault("places", 1, 6);
        fault("places  ", 1, 8);
        fault("places 2", 1, 8);
        fault("places 2 2;", 1, 9);
        fault("places x;", 1, 7);
        fault("places 1;", 2, 7);
        fault("places 7;", 2, 7);
        fault("places 00002;", 2, 7);
        fault("places 2;places 2;", 5, 9);
        fault("person 0 0;places 2;", 4, 11);
        fault("places 2;person 0 0;places 2;", 4, 20);
        fault("places 2;person 0 2;", 3, 18);
        fault("person 0 3;", 3, 9);
        fault("person 0 9999;", 3, 9);
        fault("person 0 12345;", 2, 9);
        fault("person 10 0;", 2, 7);
        fault("person 0;", 1, 8);
        fault("person ;", 1, 7);
        fault("person 0 0 x;", 1, 11);
        fault("person 0 0 0 0 0 0 0 5;", 2, 21);
        fault("blind 0 0 0 0 0 0 0 12345;", 2, 20);
        fault("blind 10 0;", 2, 6);
        fault(times("person 0 0;", 8) + "person x", 2, 88);
        fault(times("blind 0 0;", 8) + "blind", 2, 80);
        fault("thing 1 0 0;", 3, 10);
        fault("person 0 0;thing 0 0 0;", 2, 17);
        fault("person 0 0;thing 31 0 0;", 2, 17);
        fault("person 0 0;thing 1 10 0;", 2, 19);
        fault("person 0 0;thing 1 0 1;", 3, 21);
        fault("person 0 0;thing 1 0 12345;", 2, 21);
        fault("person 0 0;thing 1 0 0 by 1;", 3, 26);
        fault("person 0 0;thing 1 0 0 by 0;", 4, 26);
        fault("person 0 0;thing 1 0 0 by 12345;", 2, 26);
        fault("person 0 0;thing 1 0 0 by;", 1, 25);
        fault("person 0 0;thing 1 0 0 0;", 1, 23);
        fault("person 0 0;thing 1 0 0 bye 0;", 1, 23);
        fault("person 0 0;" + times("thing 1 0 0;", 10) + "thing;", 2, 131);
        fault("term 0;", 2, 5);
        fault("term 100;", 2, 5);
        fault("term 1;term", 5, 7);
        fault("term 1;;", 1, 7);
        due("term 99", of("term 99;").count(3), 99);
        due("term 0001", of("term 0001;").count(3), 1);
        due("eight", of(times("person 0 0 1 2 0 1 2;", 8)).count(1), 8);
        due("ten", of("person 0 0;" + times("thing 1 0 0;", 10)).count(2), 10);
    }

    private static void faultsOfRules() {
        fault("shames", 1, 6);
        fault("shames;", 1, 6);
        fault("shames 1", 1, 8);
        fault("shames 1;shames 1;", 5, 9);
        fault("returns 1;returns 1;", 5, 10);
        fault("shames 12345;", 2, 7);
        fault("shames 1 12345;", 1, 9);
        fault("shames 1 x;", 1, 9);
        fault("shames x;", 3, 7);
        fault("shames z;", 3, 7);
        fault("shames oddz;", 3, 7);
        fault("shames add;", 3, 7);
        fault("shames shame;", 3, 7);
        fault("shames many;", 3, 7);
        fault("returns odd;", 3, 8);
        fault("returns eyes;", 3, 8);
        fault("returns count;", 3, 8);
        fault("shames and;", 3, 7);
        fault("shames or 1;", 3, 7);
        fault("shames places;", 3, 7);
        fault("shames 1+not 1;", 3, 9);
        fault("shames 1<not 1;", 3, 9);
        fault("shames -1;", 1, 7);
        fault("shames 1+;", 1, 9);
        fault("shames 1+-1;", 1, 9);
        fault("shames 1<2<3;", 1, 10);
        fault("shames 1<2=3;", 1, 10);
        fault("shames 1+1<2*3<3;", 1, 14);
        fault("shames not 1<2<3;", 1, 14);
        fault("shames (1;", 1, 9);
        fault("shames 1);", 1, 8);
        fault("shames ();", 1, 8);
        fault("shames (1", 1, 9);
        fault("shames 1 > 2;", 1, 9);
        fault("shames ((((((1))))));", 2, 13);
        fault("shames ((((((x))))));", 2, 13);
        fault("shames ((((((not 1))))));", 2, 13);
        fault("shames ((((((12345))))));", 2, 13);
        fault("shames (((((((1)))))));", 2, 13);
        fault("shames (((((()", 1, 13);
        fault("shames ((((((-", 1, 13);
        fault("shames ((((((", 1, 13);
        fault("shames (((((1)))))+((((((1", 2, 25);
        fault("shames " + times("not ", 7) + "1;", 2, 31);
        fault("shames 1 and " + times("not ", 7) + "1;", 2, 37);
        fault("returns (" + times("not ", 7) + "1);", 2, 33);
        of("shames (((((1)))))+(((((1)))));");
        of("shames " + times("not ", 6) + "1;");
        of("shames " + times("not ", 6) + "(" + times("not ", 6) + "1) and " + times("not ", 6) + "1;");
        of("shames 1<2 and 2<3 or 3=4 and (1<2)<3;");
        of("shames odd+weight+count+eyes+vanity+owner+day;returns shame+vanity+many+day;");
        String deep = "1";
        for (int i = 0; i < 5; i++) {
            deep = "1 or 1 and " + times("not ", 6) + "1<1+1*(" + deep + ")";
        }
        of("shames " + deep + ";");
    }

    private static void rules() {
        gives("7", 7);
        gives("21", 20);
        gives("0-5", 0);
        gives("odd", 2);
        gives("weight", 5);
        gives("count", 0);
        gives("eyes", 2);
        gives("vanity", 3);
        gives("owner", 1);
        gives("day", 0);
        gives("1+2*3", 7);
        gives("(1+2)*3", 9);
        gives("10-3-2", 5);
        gives("20/3/2", 3);
        gives("20/(3/2)", 20);
        gives("5+(0-7)/2", 2);
        gives("4+7/0", 4);
        gives("2*3/4", 1);
        gives("5/2*2", 4);
        gives("not 5", 0);
        gives("not 0", 1);
        gives("not not 5", 1);
        gives("not 1<2", 0);
        gives("not 0+5", 0);
        gives("(not 0)+5", 6);
        gives("1<2", 1);
        gives("2<2", 0);
        gives("2=2", 1);
        gives("1+1=2", 1);
        gives("3 and 4", 1);
        gives("3 and 0", 0);
        gives("0 or 4", 1);
        gives("0 or 0", 0);
        gives("1 or 1 and 0", 1);
        gives("(1 or 1) and 0", 0);
        gives("1 or 0 and 0", 1);
        gives("not 0 and 0", 0);
        gives("5 and 3<4", 1);
        gives("256*256*256*256=0", 1);
        gives("0<9999*9999*25", 0);
        // the least int by -1 wraps to itself, and so does not hold the machine up
        gives("256*256*256*128/(0-1)<0", 1);
    }

    private static void count() {
        WornThings x = of(SMALL);
        int[] want = {3, 3, 3, 3, 0, 5, 0, 0, 0, 0, 0, 0, 0, 0};
        for (int i = 0; i < want.length; i++) {
            due("count " + i, x.count(i), want[i]);
        }
        none("count(-1)", () -> x.count(-1));
        none("count(14)", () -> x.count(14));
        none("count(MAX)", () -> x.count(Integer.MAX_VALUE));
        x.days(2);
        due("day", x.count(4), 2);
        due("shame of all", x.count(7), 7);
        due("acts", x.count(8), 1);
        due("rings", of("person 0 0;person 0 0;person 0 0;thing 1 0 1 by 0;thing 1 0 0 by 1;thing 1 0 0 by 2;").count(6), 3);
    }

    private static void person() {
        WornThings x = of(SMALL);
        int[][] want = {{1, 0, 0, 0, 1, 5, 0, 10, 0}, {3, 0, 0, 0, 4, 3, 1, 5, 2}, {2, 1, 0, 1, 0, 0, 4, 3, -1}};
        for (int p = 0; p < 3; p++) {
            for (int i = 0; i < 9; i++) {
                due("person " + p + " " + i, x.person(p, i), want[p][i]);
            }
        }
        x.steal(0, 2);
        x.dye(0, 2);
        due("oddest, of like ones the least", x.person(0, 8), 0);
        x.dye(2, 3);
        due("oddest", x.person(0, 8), 2);
        due("load", x.person(0, 5), 8);
        x.days(1);
        due("place of this day", x.person(0, 1), 1);
        none("person -1", () -> x.person(-1, 0));
        none("person 3", () -> x.person(3, 0));
        none("what -1", () -> x.person(0, -1));
        none("what 9", () -> x.person(0, 9));
    }

    private static void thing() {
        WornThings x = of(SMALL);
        int[][] want = {{5, 4, 1, 0, 0, 4}, {10, 6, 0, -1, 0, 0}, {3, 2, 2, 1, 0, 0}};
        for (int t = 0; t < 3; t++) {
            for (int i = 0; i < 6; i++) {
                due("thing " + t + " " + i, x.thing(t, i), want[t][i]);
            }
        }
        x.days(1);
        due("its days", x.thing(0, 4), 1);
        due("nobody looks on day 1", x.thing(0, 5), 3);
        none("thing -1", () -> x.thing(-1, 0));
        none("thing 3", () -> x.thing(3, 0));
        none("what -1", () -> x.thing(0, -1));
        none("what 6", () -> x.thing(0, 6));
    }

    private static void days() {
        WornThings x = of(SMALL);
        due("days 0", x.days(0), -1);
        due("days 21", x.days(21), -1);
        due("days MIN", x.days(Integer.MIN_VALUE), -1);
        due("days MAX", x.days(Integer.MAX_VALUE), -1);
        due("refused", x.count(12), 4);
        due("no acts", x.count(8), 0);
        due("days 20", x.days(20), 20);
        for (int i = 0; i < 498; i++) {
            x.days(20);
        }
        due("day 9980", x.count(4), 9980);
        due("days 20 is too much", x.days(20), -1);
        due("days 19", x.days(19), 9999);
        due("days 1", x.days(1), -1);
    }

    private static void oneDay() {
        WornThings a = of("person 0 0;person 0 0;thing 1 9 1 by 0;shames 20;");
        a.days(1);
        due("shame", a.person(0, 2), 20);
        a.days(1);
        due("given back at 40", a.thing(0, 3), -1);
        due("shame is 0", a.person(0, 2), 0);
        due("its owner stays", a.thing(0, 2), 1);
        due("its days are 0", a.thing(0, 4), 0);
        WornThings b = of("person 0 0;person 0 0;thing 1 9 1 by 0;shames 20;returns 0;term 99;");
        b.days(6);
        due("shame 99 at most", b.person(0, 2), 99);
        due("still worn", b.thing(0, 3), 0);
        WornThings c = of("person 0 0;person 0 0;thing 1 9 1 by 0;thing 1 9 1 by 0;term 1;shames 13;");
        c.days(1);
        due("one's own", c.thing(0, 2), 0);
        due("nobody wears it", c.thing(0, 3), -1);
        due("two less", c.person(0, 2), 24);
        WornThings d = of("person 0 0;person 0 1;thing 1 9 1 by 0;term 1;shames day;returns day=3;");
        d.days(3);
        due("nobody looked", d.thing(0, 4), 0);
        due("0 and 1 and 2", d.person(0, 2), 3);
        d.days(1);
        due("the day of RETURNS is the one that goes by", d.thing(0, 3), -1);
        WornThings e = of("person 0 0;person 0 0;thing 1 9 1 by 0;thing 1 9 1 by 0;returns many-1;");
        e.days(1);
        due("two are given back", e.count(5), 0);
        WornThings f = of("person 0 0;blind 0 0;thing 1 9 1 by 0;term 1;returns 0-1;");
        f.days(5);
        due("the blind don't look, below 0 gives nothing back", f.thing(0, 3), 0);
        WornThings g = of("person 0 0;person 0 0;thing 1 9 1 by 0;thing 1 9 1 by 0;shames count*5;term 3;");
        g.days(2);
        due("count is that before the day", g.person(0, 2), 10);
        WornThings h = of("person 9 0;person 0 0;thing 1 0 1 by 0;term 2;shames 9;returns many and 8<shame;");
        h.days(1);
        due("by what is so then", h.thing(0, 3), -1);
        due("shame 0", h.person(0, 2), 0);
        WornThings i = of("person 9 0;person 0 0;thing 1 0 1 by 0;term 1;shames 9;returns 1;");
        i.days(1);
        due("who wears nothing still gives nothing back", i.person(0, 2), 7);
    }

    private static void steal() {
        WornThings x = of(SMALL);
        due("from the owner", x.steal(2, 1), -1);
        due("one wears it", x.steal(2, 1), -2);
        due("one's own", x.steal(2, 2), -2);
        due("one's own, worn by nobody", x.steal(1, 0), -2);
        due("refused", x.count(12), 3);
        x.days(1);
        due("days", x.thing(0, 4), 1);
        int shame = x.person(0, 2);
        due("from who wears it", x.steal(2, 0), 0);
        due("days are 0", x.thing(0, 4), 0);
        due("shame stays", x.person(0, 2), shame);
        due("who wears it", x.thing(0, 3), 2);
        none("person", () -> x.steal(3, 0));
        none("thing", () -> x.steal(0, 3));
        none("person -1", () -> x.steal(-1, 0));
        none("thing -1", () -> x.steal(0, -1));
        due("acts", x.count(8), 3);
    }

    private static void back() {
        WornThings x = of(SMALL);
        x.days(3);
        int shame = x.person(0, 2);
        due("its days", x.back(0), 2);
        due("not worn", x.thing(0, 3), -1);
        due("days 0", x.thing(0, 4), 0);
        due("shame stays", x.person(0, 2), shame);
        due("again", x.back(0), -1);
        due("refused", x.count(12), 1);
        none("thing 3", () -> x.back(3));
        none("thing -1", () -> x.back(-1));
    }

    private static void walk() {
        WornThings x = of(SMALL);
        due("as it was", x.walk(0, 1, 2), 1);
        due("it is that one", x.walk(0, 1, 2), -1);
        due("refused", x.count(12), 1);
        due("place", x.where(0, 2, 0), 2);
        none("person 3", () -> x.walk(3, 0, 0));
        none("person -1", () -> x.walk(-1, 0, 0));
        none("i 2", () -> x.walk(0, 2, 0));
        none("i -1", () -> x.walk(0, -1, 0));
        none("place 3", () -> x.walk(0, 0, 3));
        none("place -1", () -> x.walk(0, 0, -1));
        due("refused still", x.count(12), 1);
        due("acts", x.count(8), 1);
    }

    private static void dye() {
        WornThings x = of(SMALL);
        due("as it was", x.dye(0, 9), 4);
        due("odd", x.thing(0, 1), 9);
        due("10", x.dye(0, 10), -1);
        due("-1", x.dye(0, -1), -1);
        due("0", x.dye(0, 0), 9);
        due("the same", x.dye(0, 0), 0);
        due("acts", x.count(8), 3);
        due("refused", x.count(12), 2);
        none("thing 3", () -> x.dye(3, 10));
    }

    private static void undo() {
        WornThings x = of(SMALL);
        x.days(7);
        x.steal(2, 1);
        x.days(3);
        x.back(1);
        x.walk(0, 0, 2);
        x.dye(0, 0);
        x.note(0, 1, true);
        for (int i = 5; i >= 0; i--) {
            due("left", x.undo(), i);
        }
        due("none", x.undo(), -1);
        due("undo is never refused", x.count(12), 0);
        due("noted stays", x.count(9), 1);
        due("day", x.count(4), 0);
        due("worn", x.count(5), 5);
        due("odd", x.thing(0, 1), 4);
        due("place", x.person(0, 1), 0);
        due("owner", x.thing(0, 2), 1);
        for (int i = 1; i <= 45; i++) {
            x.days(1);
        }
        due("at most 40", x.count(8), 40);
        for (int i = 39; i >= 0; i--) {
            due("left", x.undo(), i);
        }
        due("none", x.undo(), -1);
        due("day 5", x.count(4), 5);
    }

    private static void then() {
        WornThings x = of(SMALL);
        due("wears", x.then(0, 0, 0), 0);
        due("days", x.then(0, 4, 2), 2);
        due("owner", x.then(0, 5, 1), 0);
        due("nobody", x.then(0, 100, 0), -1);
        due("nothing changes", x.count(4), 0);
        none("thing ahead", () -> x.then(3, 101, 0));
        none("what ahead", () -> x.then(0, 101, 3));
        none("what -1", () -> x.then(0, 0, -1));
        illegal("-1", () -> x.then(0, -1, 0));
        illegal("101", () -> x.then(0, 101, 0));
    }

    private static void later() {
        WornThings x = of(SMALL);
        due("shame", x.later(0, 2, 0), 7);
        due("weight", x.later(0, 5, 1), 15);
        due("now", x.later(1, 0, 1), 5);
        due("100", x.later(0, 100, 0), 0);
        none("person ahead", () -> x.later(3, 101, 0));
        none("what ahead", () -> x.later(0, 101, 2));
        none("what -1", () -> x.later(0, 0, -1));
        illegal("-1", () -> x.later(0, -1, 0));
        illegal("101", () -> x.later(0, 101, 0));
    }

    private static void when() {
        WornThings x = of(SMALL);
        due("own", x.when(0, 0), 5);
        due("never back", x.when(0, 1), -1);
        due("not worn", x.when(1, 0), -1);
        due("not worn", x.when(1, 1), -1);
        WornThings y = of("person 0 0;person 0 0;thing 1 9 1 by 0;shames 20;");
        due("back", y.when(0, 1), 2);
        due("never own", y.when(0, 0), -1);
        WornThings z = of("person 9 0;person 9 0;thing 1 0 1 by 0;term 99;");
        due("day 99", z.when(0, 0), 99);
        WornThings late = of("person 9 0;person 9 1 0;thing 1 0 1 by 0;term 50;");
        due("behind 100 days", late.when(0, 0), 100);
        WornThings tooLate = of("person 9 0;person 9 1 0;thing 1 0 1 by 0;term 51;");
        due("behind 102 days", tooLate.when(0, 0), -1);
        none("thing", () -> x.when(3, 0));
        none("what 2", () -> x.when(0, 2));
        none("what -1", () -> x.when(0, -1));
    }

    private static void all() {
        WornThings x = of(SMALL);
        due("richest", x.all(0, 0), 0);
        due("most ashamed", x.all(1, 1), 0);
        due("worn", x.all(4, 2), 5);
        due("worn", x.all(5, 2), 0);
        due("changed", x.all(4, 3), 0);
        due("changed", x.all(100, 3), 2);
        due("of like ones", of("person 0 0;person 0 0;thing 4 0 1;thing 4 0 0;").all(0, 0), 0);
        due("the second", of("person 0 0;person 0 0;thing 4 0 1;").all(0, 0), 1);
        due("most ashamed", of("person 0 0;person 0 0;thing 4 5 0 by 1;").all(1, 1), 1);
        due("nobody", new WornThings().all(0, 0), -1);
        due("nobody", new WornThings().all(100, 1), -1);
        none("what ahead", () -> x.all(101, 4));
        none("what -1", () -> x.all(0, -1));
        illegal("-1", () -> x.all(-1, 0));
        illegal("101", () -> x.all(101, 3));
    }

    private static void where() {
        WornThings x = of(SMALL);
        due("place", x.where(0, 1, 0), 0);
        due("place", x.where(0, 100, 0), 1);
        due("looks", x.where(0, 1, 1), 2);
        due("the blind do not", x.where(1, 2, 1), 0);
        due("at the blind", x.where(2, 2, 1), 2);
        none("person ahead", () -> x.where(3, 0, 0));
        none("what ahead", () -> x.where(0, 0, 2));
        none("what -1", () -> x.where(0, 1, -1));
        illegal("0", () -> x.where(0, 0, 0));
        illegal("101", () -> x.where(0, 101, 1));
    }

    private static void toStand() {
        WornThings x = of(SMALL);
        due("which", x.toStand(0, 0), 0);
        due("behind", x.toStand(0, 1), 3);
        due("not worn", x.toStand(1, 0), -1);
        due("not worn", x.toStand(1, 1), -1);
        WornThings y = of("places 4;person 0 0;person 9 2;person 9 3;thing 1 0 1 by 0;term 4;");
        due("of like ones the least", y.toStand(0, 0), 2);
        due("behind", y.toStand(0, 1), 4);
        due("nothing changes", y.person(0, 1), 0);
        WornThings z = of("person 0 0;blind 9 0;thing 1 0 1 by 0;");
        due("none", z.toStand(0, 0), -1);
        due("none", z.toStand(0, 1), -1);
        none("thing", () -> x.toStand(3, 0));
        none("what 2", () -> x.toStand(0, 2));
        none("what -1", () -> x.toStand(0, -1));
    }

    private static void toSteal() {
        WornThings x = of(SMALL);
        due("which", x.toSteal(1, 0), 1);
        due("behind", x.toSteal(1, 1), 5);
        due("which", x.toSteal(2, 0), 0);
        due("behind", x.toSteal(2, 1), 6);
        due("nothing changes", x.count(5), 5);
        WornThings y = of("person 0 0;blind 0 0;thing 1 0 1;thing 1 0 0;");
        due("none", y.toSteal(0, 0), -1);
        due("none", y.toSteal(0, 1), -1);
        none("person", () -> x.toSteal(3, 0));
        none("what 2", () -> x.toSteal(0, 2));
        none("what -1", () -> x.toSteal(0, -1));
    }

    private static void watch() {
        WornThings x = of(SMALL);
        due("one place", x.watch(1), 1);
        due("nobody wears", of("person 0 0;").watch(100), 0);
        WornThings y = of("places 6;person 0 5;person 0 1 4;person 0 2 4;thing 1 0 1 by 0;thing 1 0 0 by 1;thing 1 0 0 by 2;");
        due("three places", y.watch(1), 38);
        due("two places", y.watch(2), 48);
        WornThings z = of("places 6;person 0 3 2;thing 1 0 0;person 0 1;thing 1 0 1 by 0;");
        due("least bits", z.watch(100), 4);
        illegal("0", () -> x.watch(0));
        illegal("101", () -> x.watch(101));
    }

    private static void least() {
        WornThings x = of(SMALL);
        due("how much", x.least(-1), 2);
        due("to whom", x.least(0), 2);
        due("to whom", x.least(2), 1);
        due("not worn", x.least(1), -1);
        WornThings y = of("person 0 0;person 0 0;thing 1 0 1 by 0;thing 1 0 1 by 0;thing 1 0 1;");
        due("more things", y.least(-1), -2);
        due("more things", y.least(0), -2);
        due("more things, also one that isn't worn", y.least(2), -2);
        none("no such thing even so", () -> y.least(3));
        WornThings z = of("person 9 0;person 9 0;person 9 0;person 9 0;thing 1 1 3 by 2;thing 1 1 0 by 1;thing 1 1 1 by 2;");
        due("first row", z.least(0) * 100 + z.least(1) * 10 + z.least(2), 12);
        due("nothing", z.least(-1), 0);
        WornThings many = of(times("person 0 0;", 8) + times("thing 1 9 7 by 0;", 7) + "thing 1 9 0 by 7;");
        due("eight go", many.least(-1), 72);
        due("the owner of the others", many.least(7), 7);
        WornThings more = of(times("person 0 0;", 8) + times("thing 1 9 7 by 0;", 7) + times("thing 1 9 0 by 7;", 3));
        due("ten to eight", more.least(-1), -2);
        none("-2", () -> x.least(-2));
        none("3", () -> x.least(3));
        due("without things", new WornThings().least(-1), 0);
    }

    private static void whose() {
        WornThings x = of(SMALL);
        due("0", x.whose(0), 6);
        due("1", x.whose(1), 4);
        due("2", x.whose(2), 0);
        WornThings y = of("person 0 0;person 0 0;thing 1 0 1 by 0;thing 1 0 0 by 1;");
        due("oneself", y.whose(0), 3);
        none("person", () -> x.whose(3));
        none("person -1", () -> x.whose(-1));
    }

    private static void noteAndForget() {
        WornThings x = of(SMALL);
        due("-1", x.note(0, -1, true), -1);
        due("31", x.note(0, 31, true), -1);
        for (int i = 1; i <= 8; i++) {
            due("note", x.note(i % 3, i == 8 ? 30 : 0, true), i);
        }
        due("the ninth", x.note(0, 0, true), -1);
        due("refused", x.count(13), 3);
        none("thing ahead", () -> x.note(3, 31, true));
        none("thing -1", () -> x.note(-1, 0, true));
        due("noted", x.count(9), 8);
        x.forget();
        due("forgotten", x.count(9), 0);
        due("all is so", x.vain(0), 27);
    }

    private static void vain() {
        WornThings x = of("person 5 0;person 0 0;thing 1 9 1 by 0;term 9;");
        due("all without notes", x.vain(0), 18);
        due("first", x.vain(1), 0);
        due("without", x.vain(2), 1);
        // shame grows by 10 less vanity: it is 40 behind 8 days by vanity 5
        x.note(0, 4, false);
        due("without", x.vain(2), 0);
        due("only the vanity 0 of person 0", x.vain(0), 1);
        due("first", x.vain(1), 0);
        x.note(0, 0, false);
        due("none", x.vain(0), 0);
        due("none", x.vain(1), -1);
        x.forget();
        x.note(0, 8, true);
        due("vanity 6 to 9", x.vain(0), 4);
        due("first", x.vain(1), 6);
        x.forget();
        x.note(0, 8, false);
        due("all the others", x.vain(0), 14);
        due("without", x.vain(2), 1);
        none("what 3", () -> x.vain(3));
        none("what -1", () -> x.vain(-1));
    }

    private static void ask() {
        WornThings x = of("person 5 0;person 0 0;thing 1 0 1;thing 1 9 1 by 0;term 20;");
        due("which", x.ask(0), 1);
        // vanity 5 and below gives it back within 10 days, 6 and above does not
        due("unlike", x.ask(1), 2);
        x.note(1, 0, false);
        due("none", x.ask(0), -1);
        due("none", x.ask(1), 0);
        due("no things", of("person 0 0;").ask(0), -1);
        due("of like ones the least", of("person 0 0;thing 1 0 0;thing 1 0 0;").ask(0), 0);
        // shame is 36 behind 9 days and 40 behind 10 by vanity 6, 30 behind 10 by vanity 7
        WornThings y = of("person 0 1;person 3 0;person 0 0;thing 1 9 2;thing 1 9 2 by 1;term 99;");
        due("the second one's", y.ask(0), 1);
        due("given back, or not", y.ask(1), 2);
        y.note(1, 9, true);
        y.note(1, 10, false);
        due("vanity 6 and no other of person 1", y.vain(0), 1);
        due("which", y.vain(1), 16);
        due("one alone is unlike none", y.ask(1), 1);
        due("the least thing", y.ask(0), 0);
        y.forget();
        y.note(1, 10, true);
        due("vanity 7 to 9", y.vain(0), 3);
        y.dye(1, 8);
        // shame is 36 behind 12 days by vanity 6, 40 behind 10 by vanity 5
        due("vanity 6 to 9", y.vain(0), 4);
        WornThings z = of("person 0 0;person 0 0;thing 1 0 1 by 0;thing 1 0 0 by 1;term 99;shames 0;returns day=10 and vanity=3;");
        due("behind 10 days, not 11", z.ask(1), 1);
        WornThings u = of("person 0 0;person 0 0;thing 1 0 1 by 0;thing 1 0 0 by 1;term 99;shames 0;returns day=9 and vanity=3;");
        due("behind 10 days", u.ask(1), 2);
        due("of like ones the least", u.ask(0), 0);
        WornThings v = of("person 0 0;person 0 0;person 3 0;thing 1 0 2 by 1;term 99;shames 0;returns day=2*vanity;");
        due("given back on another day is alike", v.ask(1), 2);
        none("what 2", () -> x.ask(2));
        none("what -1", () -> x.ask(-1));
    }

    private static void fog() {
        WornThings x = of(SMALL);
        due("5 days", x.fog(0, 5, 5), 12500);
        due("4 days", x.fog(0, 4, 5), 0);
        due("no fog", x.fog(0, 5, 0), 100000);
        due("always", x.fog(0, 5, 10), 0);
        due("not worn", x.fog(1, 5, 0), 0);
        due("1 day", of("person 0 0;person 0 0;thing 1 0 1 by 0;term 1;").fog(0, 1, 3), 7);
        due("2 days", of("person 0 0;person 0 0;thing 1 0 1 by 0;term 1;").fog(0, 2, 3), 91);
        none("thing ahead", () -> x.fog(3, 0, 0));
        illegal("0", () -> x.fog(0, 0, 0));
        illegal("6", () -> x.fog(0, 6, 0));
        illegal("tenths -1", () -> x.fog(0, 1, -1));
        illegal("tenths 11", () -> x.fog(0, 1, 11));
    }

    private static void game() {
        WornThings x = of(SMALL);
        due("couples", x.game(0, 1, 0), 1);
        due("first", x.game(0, 1, 1), 0);
        due("one wears nothing", x.game(0, 2, 0), -1);
        due("one wears nothing", x.game(2, 0, 1), -1);
        // whoever keeps it has so much shame that to give it back is better, by turns
        WornThings y = of("person 0 0;person 0 0;thing 1 0 1 by 0;thing 1 0 0 by 1;term 99;shames 3;returns 0;");
        due("both give back", y.game(0, 1, 0), 1);
        due("both give back", y.game(0, 1, 1), 11);
        WornThings z = of("person 9 0;person 9 0;thing 1 0 1 by 0;thing 1 0 0 by 1;term 99;");
        due("all rest", z.game(0, 1, 0), 4);
        due("first", z.game(1, 0, 1), 0);
        // own behind 12 days shame is 36 less 2: an eighth is 4, as much as the thing is worth
        String both = "person 0 0;person 0 0;thing 1 0 1 by 0;thing 1 0 0 by 1;returns 0;shames 3;";
        due("own behind 12 days", of(both + "term 12;").game(0, 1, 0), 4);
        due("own behind 13 days", of(both + "term 13;").game(0, 1, 0), 1);
        due("own behind 13 days", of(both + "term 13;").game(0, 1, 1), 11);
        due("own behind 11 days", of(both + "term 11;").game(0, 1, 0), 1);
        due("own behind 8 days", of(both + "term 8;").game(0, 1, 0), 1);
        due("own behind 8 days", of(both + "term 8;").game(0, 1, 1), 0);
        none("person", () -> x.game(3, 3, 0));
        none("other", () -> x.game(0, 3, 0));
        none("what ahead", () -> x.game(0, 0, 2));
        none("what -1", () -> x.game(0, 1, -1));
        illegal("both are one", () -> x.game(0, 0, 0));
        illegal("both are one", () -> x.game(2, 2, 1));
    }

    private static void years() {
        WornThings x = of(SMALL);
        due("often", x.years(5, 0, 0), 0);
        due("worn", x.years(5, 0, 2), 2);
        x.days(1);
        due("shame", x.years(5, 0, 1), 4);
        due("day stays", x.count(4), 1);
        none("what 3", () -> x.years(5, 101, 3));
        none("what -1", () -> x.years(5, 0, -1));
        illegal("-1", () -> x.years(5, -1, 0));
        illegal("101", () -> x.years(5, 101, 0));
        due("nobody", new WornThings().years(7, 100, 1), 0);
        // seed 3: 3*1103515245+12345 = 3310558080, its bits 16 to 30 are 17747, MOD 5 is 2
        WornThings y = of("person 0 0;person 0 1;thing 1 9 1 by 0;shames 9;returns 0;");
        y.days(2);
        due("shame is gone ahead of the day, if it is drawn so", y.years(3, 1, 1), yearsOfThree());
    }

    private static int yearsOfThree() {
        int seed = 3 * 1103515245 + 12345;
        int event = (seed >>> 16 & 32767) % 5;
        seed = seed * 1103515245 + 12345;
        int who = (seed >>> 16 & 32767) % 2;
        return event == 2 && who == 0 ? 9 : 27;
    }

    private static void meet() {
        WornThings x = of(SMALL);
        due("0 1", x.meet(0, 1), 1);
        due("0 2", x.meet(0, 2), -1);
        due("1 2", x.meet(1, 2), 2);
        due("1 1", x.meet(1, 1), -1);
        none("person", () -> x.meet(3, 0));
        none("other", () -> x.meet(0, -1));
        none("both", () -> x.meet(3, 3));
        x.days(1);
        due("from now", x.meet(0, 1), 2);
    }

    private static void faced() {
        WornThings x = of(SMALL);
        due("0", x.faced(0), 1);
        due("a blind owner", x.faced(2), -1);
        due("not worn", x.faced(1), -1);
        x.days(1);
        due("from now", x.faced(0), 2);
        none("thing", () -> x.faced(3));
        none("thing -1", () -> x.faced(-1));
    }

    private static void walks() {
        WornThings x = of(SMALL);
        due("busiest", x.walks(1, 0), 0);
        due("unseen", x.walks(2, 1), 0);
        due("nobody", new WornThings().walks(1, 0), 0);
        WornThings y = of("person 0 2;person 0 1 2;person 0 1 0;thing 1 0 1 by 0;thing 1 0 0 by 2;");
        due("busiest", y.walks(1, 0), 1);
        due("of like ones the least", of("person 0 2;person 0 1;").walks(9, 0), 1);
        due("unseen on one day", y.walks(1, 1), 1);
        due("unseen on two days", y.walks(2, 1), 0);
        none("what ahead", () -> x.walks(0, 2));
        none("what -1", () -> x.walks(1, -1));
        illegal("0", () -> x.walks(0, 0));
        illegal("101", () -> x.walks(101, 1));
    }

    private static void shamed() {
        WornThings x = of(SMALL);
        due("10", x.shamed(0, 10), 3);
        due("99", x.shamed(0, 99), -1);
        x.days(1);
        due("now", x.shamed(0, 4), 0);
        WornThings y = of("person 0 0;person 0 1;thing 1 0 1 by 0;shames 1;returns 0;");
        due("99 behind 99", y.shamed(0, 99), 99);
        String once = "person 0 0;person 0 1;thing 1 0 1 by 0;returns 0;shames day=";
        due("behind 100", of(once + "99;").shamed(0, 1), 100);
        due("behind 101", of(once + "100;").shamed(0, 1), -1);
        none("person ahead", () -> x.shamed(3, 0));
        illegal("0", () -> x.shamed(0, 0));
        illegal("100", () -> x.shamed(0, 100));
    }

    private static void has() {
        WornThings x = of(SMALL);
        due("now", x.has(0, 0), 2);
        due("behind 5", x.has(0, 5), 3);
        due("behind 100", x.has(2, 100), 0);
        none("person ahead", () -> x.has(3, -1));
        illegal("-1", () -> x.has(0, -1));
        illegal("101", () -> x.has(0, 101));
    }

    private static void takes() {
        WornThings x = of(SMALL);
        due("0 1", x.takes(0, 1), 1);
        due("1 0", x.takes(1, 0), 0);
        due("1 2", x.takes(1, 2), 4);
        due("0 0", x.takes(0, 0), 0);
        none("person", () -> x.takes(3, 0));
        none("other", () -> x.takes(0, 3));
    }

    private static void quiet() {
        WornThings x = of(SMALL);
        due("9", x.quiet(9), 2);
        due("0", x.quiet(0), 2);
        due("nothing", new WornThings().quiet(100), 0);
        due("all ten", of("person 0 0;" + times("thing 1 0 0;", 10)).quiet(100), 1023);
        illegal("-1", () -> x.quiet(-1));
        illegal("101", () -> x.quiet(101));
    }

    private static void imageAndRestore() {
        WornThings x = of(SMALL);
        x.days(2);
        x.walk(0, 0, 2);
        x.note(0, 3, true);
        x.image();
        x.days(9);
        x.steal(2, 1);
        x.dye(1, 1);
        x.walk(0, 0, 1);
        x.days(0);
        x.forget();
        due("restore", x.restore() ? 1 : 0, 1);
        due("day", x.count(4), 2);
        due("worn", x.count(5), 5);
        due("owner", x.thing(0, 2), 1);
        due("days", x.thing(0, 4), 1);
        due("odd", x.thing(1, 1), 6);
        due("shame", x.person(0, 2), 7);
        due("place", x.person(0, 1), 2);
        due("acts", x.count(8), 2);
        due("noted", x.count(9), 1);
        due("status stays", x.count(12), 1);
        due("undo", x.undo(), 1);
        due("place", x.person(0, 1), 0);
        due("undo", x.undo(), 0);
        due("day", x.count(4), 0);
        due("restore again", x.restore() ? 1 : 0, 1);
        due("day", x.count(4), 2);
        x.days(1);
        x.image();
        x.days(1);
        due("another one", x.restore() ? 1 : 0, 1);
        due("day", x.count(4), 3);
        imageOfActsAndNotes();
    }

    private static void imageOfActsAndNotes() {
        WornThings x = of("person 5 0;person 0 0;thing 1 9 1;thing 1 9 1 by 0;term 9;");
        for (int i = 1; i <= 43; i++) {
            x.dye(0, i % 10);
        }
        x.note(1, 8, true);
        x.image();
        x.forget();
        x.note(0, 0, false);
        x.note(0, 3, false);
        for (int i = 0; i < 50; i++) {
            x.dye(0, 5);
        }
        due("all is so by the others", x.vain(0), 18);
        x.restore();
        due("vanity 6 to 9 alone", x.vain(0), 4);
        due("acts", x.count(8), 40);
        for (int i = 42; i >= 3; i--) {
            due("left", x.undo(), i - 3);
            due("odd as it was", x.thing(0, 1), i % 10);
        }
        due("none is left", x.undo(), -1);
    }
}
