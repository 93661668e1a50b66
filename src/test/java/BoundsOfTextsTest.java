/** The boundaries of texts and of the tape: Terms as far as they tell the text, promises 1 to 4. */
public final class BoundsOfTextsTest extends Checks {
    private static final String TWO = "person 0 0;person 0 0;";

    public static void main(String[] args) {
        sentence("3 PLACES, nobody, no THINGS.", BoundsOfTextsTest::nothingTold);
        sentence("PLACES 0, 1 .. (2 to 6; 3 without).", BoundsOfTextsTest::places);
        sentence("PEOPLE 0, 1 .. (at most 8)", BoundsOfTextsTest::people);
        sentence("VANITY (0 to 9)", BoundsOfTextsTest::vanity);
        sentence("a WALK (1 to 6 PLACES)", BoundsOfTextsTest::walk);
        sentence("the blind look at nobody.", BoundsOfTextsTest::blind);
        sentence("THINGS 0, 1 .. (at most 10)", BoundsOfTextsTest::things);
        sentence("WEIGHT (1 to 30)", BoundsOfTextsTest::weight);
        sentence("ODD (0 to 9)", BoundsOfTextsTest::odd);
        sentence("an OWNER, perhaps another one who WEARS it at first.", BoundsOfTextsTest::ownerAndWearer);
        sentence("A TERM (1 to 99; 10 without).", BoundsOfTextsTest::term);
        sentence("A TEXT of at most 700 bytes tells it.", BoundsOfTextsTest::longestText);
        sentence("words (a .. z, the longest row)", BoundsOfTextsTest::words);
        sentence("NUMBERS (1 to 4 digits)", BoundsOfTextsTest::numbers);
        sentence("blanks (32, 10) between them count for nothing.", BoundsOfTextsTest::blanks);
        sentence("signs ; ( ) + - * / < = ;", BoundsOfTextsTest::bytesWithinARule);
        sentence("CITY: LINE*.", BoundsOfTextsTest::anyLines);
        sentence("('person' | 'blind') VANITY PLACE PLACE*", BoundsOfTextsTest::linesOfPeople);
        sentence("'thing' WEIGHT ODD PERSON ['by' PERSON]", BoundsOfTextsTest::linesOfThings);
        sentence("NOT: 'not' NOT | SUM [('<' | '=') SUM].", BoundsOfTextsTest::oneTestAlone);
        sentence("From the left;", BoundsOfTextsTest::fromTheLeft);
        sentence("ints that wrap,", BoundsOfTextsTest::wrap);
        sentence("/ cut down to 0, by 0 gives 0;", BoundsOfTextsTest::division);
        sentence("tests, not, and, or are 1 or 0 (what isn't 0 holds).", BoundsOfTextsTest::oneOrNothing);
        sentence("VALUES of SHAMES, for a THING that is worn:", BoundsOfTextsTest::valuesOfShames);
        sentence("of RETURNS, for a PERSON:", BoundsOfTextsTest::valuesOfReturns);
        faults();
        tape();
        finish("BoundsOfTextsTest");
    }

    private static void faults() {
        sentence("FAULTS, the first along the text,", BoundsOfTextsTest::firstFault);
        sentence("at a TOKEN's first byte,", BoundsOfTextsTest::firstByte);
        sentence("of one TOKEN the least:", BoundsOfTextsTest::leastFault);
        sentence("1 a TOKEN that can't stand there, or is none", BoundsOfTextsTest::cantStand);
        sentence("(the text's length where it ends too soon);", BoundsOfTextsTest::endsTooSoon);
        sentence("2 one that can, but is too much: a NUMBER of 5 digits or more,", BoundsOfTextsTest::fiveDigits);
        sentence("or (not in an EXPR) not as told,", BoundsOfTextsTest::notAsTold);
        sentence("the first TOKEN of the 9th PERSON,", BoundsOfTextsTest::ninthPerson);
        sentence("the 11th THING,", BoundsOfTextsTest::eleventhThing);
        sentence("the 7th PLACE of a WALK,", BoundsOfTextsTest::seventhPlace);
        sentence("of an EXPR within 6 others (a NUMBER, any word, a parenthesis),", BoundsOfTextsTest::withinSix);
        sentence("the seventh 'not' side by side;", BoundsOfTextsTest::seventhNot);
        sentence("3 any word where a PART must stand that is no VALUE of this EXPR,", BoundsOfTextsTest::noValue);
        sentence("a PLACE that there isn't (by 'places' as told ahead; of 3, if it isn't),", BoundsOfTextsTest::noSuchPlace);
        sentence("a PERSON who isn't told ahead;", BoundsOfTextsTest::noSuchPerson);
        sentence("4 the PERSON behind 'by', if it is the OWNER;", BoundsOfTextsTest::byTheOwner);
        sentence("'places', if a PERSON is told ahead;", BoundsOfTextsTest::placesTooLate);
        sentence("5 a second 'places', 'term', 'shames', 'returns'.", BoundsOfTextsTest::second);
    }

    private static void tape() {
        sentence("Twenty bytes come behind the tape, of each number the highest first: how many it has;", BoundsOfTextsTest::feed);
        sentence("NONE, and none come, if it would have more than 700.", BoundsOfTextsTest::tapeIsFull);
        sentence("The tape's first n bytes (it is empty then) are a CITY, all anew:", BoundsOfTextsTest::firstBytes);
        sentence("0, or the FAULT (all stays).", BoundsOfTextsTest::allStays);
        sentence("ACTS, what is NOTED, the image are gone (STATUS stays).", BoundsOfTextsTest::allGone);
        sentence("IllegalArgumentException: the tape has not so many, n below 0 (nothing changes).", BoundsOfTextsTest::notSoMany);
        sentence("The place of the latest city()'s FAULT; NONE without.", BoundsOfTextsTest::placeOfTheFault);
        sentence("0 of TEXTS with a FAULT,", BoundsOfTextsTest::statusOfTexts);
    }

    private static void nothingTold() {
        int[] want = {3, 0, 0, 10, 0, 0, 0, 0, 0, 0, 0, 0, 0, 0};
        for (int i = 0; i < want.length; i++) {
            due("count " + i, new WornThings().count(i), want[i]);
        }
        none("person 0", () -> new WornThings().person(0, 0));
        none("thing 0", () -> new WornThings().thing(0, 0));
        due("the walk of the empty city", new WornThings().walks(100, 0), 0);
    }

    private static void places() {
        fault("places 0;", 2, 7);
        fault("places 1;", 2, 7);
        due("2", of("places 2;").count(0), 2);
        due("6", of("places 6;").count(0), 6);
        fault("places 7;", 2, 7);
        due("without", of("").count(0), 3);
        due("without, with people", of("person 0 2;").count(0), 3);
        WornThings x = of("places 6;person 0 0;");
        none("walk to 6", () -> x.walk(0, 0, 6));
        due("walk to 5", x.walk(0, 0, 5), 0);
        due("place 5", x.person(0, 1), 5);
        none("walk to -1", () -> x.walk(0, 0, -1));
    }

    private static void people() {
        WornThings x = of(times("person 1 0;", 4) + times("blind 2 0;", 4));
        due("8", x.count(1), 8);
        due("the last one", x.person(7, 0), 2);
        none("the 9th", () -> x.person(8, 0));
        none("-1", () -> x.person(-1, 0));
        due("nobody", of("").count(1), 0);
        due("one", of("blind 0 0;").count(1), 1);
    }

    private static void vanity() {
        due("0", of("person 0 0;").person(0, 0), 0);
        due("9", of("person 9 0;").person(0, 0), 9);
        due("9", of("blind 9 0;").person(0, 0), 9);
        fault("person 10 0;", 2, 7);
        fault("blind 10 0;", 2, 6);
        fault("person 9999 0;", 2, 7);
    }

    private static void walk() {
        fault("person 0;", 1, 8);
        fault("blind 0;", 1, 7);
        WornThings one = of("person 0 1;");
        due("one place", one.where(0, 100, 0), 1);
        due("walk 0", one.walk(0, 0, 2), 1);
        none("walk 1", () -> one.walk(0, 1, 2));
        WornThings six = of("person 0 0 1 2 0 1 2;");
        due("walk 5", six.walk(0, 5, 0), 2);
        none("walk 6", () -> six.walk(0, 6, 0));
        fault("person 0 0 1 2 0 1 2 0;", 2, 21);
    }

    private static void blind() {
        WornThings x = of("blind 0 0;person 0 0;thing 1 0 1 by 0;thing 1 0 0 by 1;");
        due("one looks at the blind", x.where(0, 1, 1), 2);
        due("the blind look at nobody", x.where(1, 1, 1), 0);
        x.days(1);
        due("a day more", x.thing(0, 4), 1);
        due("no day more", x.thing(1, 4), 0);
    }

    private static void things() {
        WornThings x = of("person 0 0;" + times("thing 1 0 0;", 9) + "thing 7 0 0;");
        due("10", x.count(2), 10);
        due("the last one", x.thing(9, 0), 7);
        none("the 11th", () -> x.thing(10, 0));
        none("-1", () -> x.thing(-1, 0));
        due("nothing", of("person 0 0;").count(2), 0);
    }

    private static void weight() {
        fault("thing 0 0 0;", 2, 6);
        fault("person 0 0;thing 0 0 0;", 2, 17);
        due("1", of("person 0 0;thing 1 0 0;").thing(0, 0), 1);
        due("30", of("person 0 0;thing 30 0 0;").thing(0, 0), 30);
        fault("person 0 0;thing 31 0 0;", 2, 17);
    }

    private static void odd() {
        due("0", of("person 0 0;thing 1 0 0;").thing(0, 1), 0);
        due("9", of("person 0 0;thing 1 9 0;").thing(0, 1), 9);
        fault("person 0 0;thing 1 10 0;", 2, 19);
    }

    private static void ownerAndWearer() {
        WornThings x = of(TWO + "thing 1 0 1;thing 1 0 1 by 0;thing 1 0 0 by 1;");
        due("owner", x.thing(0, 2), 1);
        due("nobody wears it", x.thing(0, 3), -1);
        due("owner", x.thing(1, 2), 1);
        due("worn", x.thing(1, 3), 0);
        due("worn", x.thing(2, 3), 1);
        due("no days yet", x.thing(1, 4), 0);
        WornThings all = of(times("person 0 0;", 8) + "thing 1 0 7;thing 1 0 0 by 7;");
        due("the last one owns", all.thing(0, 2), 7);
        due("the last one wears", all.thing(1, 3), 7);
    }

    private static void term() {
        fault("term 0;", 2, 5);
        due("1", of("term 1;").count(3), 1);
        due("99", of("term 99;").count(3), 99);
        fault("term 100;", 2, 5);
        due("without", of("").count(3), 10);
        WornThings x = of("term 5;");
        tell(x, "");
        due("all anew", x.count(3), 10);
    }

    private static void longestText() {
        String longest = times(" ", 693) + "term 5;";
        due("700 bytes", longest.length(), 700);
        due("its end is read", of(longest).count(3), 5);
        WornThings x = new WornThings();
        put(x, longest);
        due("one byte less ends too soon", x.city(699), 1);
        due("there", x.fault(), 699);
        String rule = "shames 1" + times("+1", 345) + "  ";
        due("a rule of 700 bytes that ends too soon", rule.length(), 700);
        fault(rule, 1, 700);
        WornThings y = of("person 0 0;person 0 0;thing 1 1 1 by 0;shames " + "0" + times("+0", 321) + "+19;");
        due("a long rule", y.thing(0, 5), 19);
    }

    private static void words() {
        fault("termx 5;", 1, 0);
        fault("ter m 5;", 1, 0);
        fault("term x5;", 1, 5);
        fault("termterm 5;", 1, 0);
        due("a number ends a word", of("term5;").count(3), 5);
        due("a word ends a number", of(TWO + "thing1 0 0by 1;").thing(0, 3), 1);
        fault("Term 5;", 1, 0);
        fault("tErm 5;", 1, 0);
        fault("shames odd`;", 1, 10);
        fault("shames odd{;", 1, 10);
        fault("shames oddz;", 3, 7);
        fault("shames odda;", 3, 7);
        fault("shames z;", 3, 7);
        fault("shames a;", 3, 7);
        fault("shames add;", 3, 7);
        fault("shames oda;", 3, 7);
        fault("glaces 2;", 1, 0);
        fault("placet 2;", 1, 0);
        fault("place 2;", 1, 0);
    }

    private static void numbers() {
        due("one digit", of("term 9;").count(3), 9);
        due("four digits", of("term 0099;").count(3), 99);
        fault("term 00099;", 2, 5);
        gives("0020", 20);
        fault("shames 9999=10000;", 2, 12);
        gives("9999<9998", 0);
        fault("shames 10000;", 2, 7);
        fault("shames 00000;", 2, 7);
        fault("shames " + times("9", 600) + ";", 2, 7);
        fault("shames 1/;", 1, 9);
        fault("shames 1:;", 1, 8);
    }

    private static void blanks() {
        for (int b = 0; b < 256; b++) {
            String text = "" + (char) b;
            if (b == 32 || b == 10) {
                of(text);
                of("term" + text + text + "5" + text + ";" + text);
            } else {
                fault(text, 1, 0);
                fault(" \n" + text, 1, 2);
            }
        }
        fault("term 5\t;", 1, 6);
        fault("term\r5;", 1, 4);
        due("none are needed", of("places4;term5;person7 3 0;thing5 4 0;shames1;returns0;").count(0), 4);
        fault("te rm 5;", 1, 0);
        fault("term 5 5;", 1, 7);
    }

    /** Each byte behind "shames 1" and ahead of ";". */
    private static void bytesWithinARule() {
        for (int b = 0; b < 256; b++) {
            String text = "shames 1" + (char) b + ";";
            boolean digit = b >= '0' && b <= '9';
            if (b == 32 || b == 10 || digit) {
                of(text);
            } else if ("+-*/<=;".indexOf(b) >= 0) {
                fault(text, 1, 9);
            } else {
                fault(text, 1, 8);
            }
        }
        of("shames (1+2-3)*4/5<6 and (7=8);");
    }

    private static void anyLines() {
        due("none", of("").count(10), 0);
        of(" ");
        fault(";", 1, 0);
        fault("term 5;;", 1, 7);
        WornThings x = of("returns 0;shames 1;term 7;places 4;person 0 3;thing 1 0 0;person 0 2;thing 2 0 1 by 0;");
        due("in any order", x.count(0) * 1000 + x.count(1) * 100 + x.count(2) * 10 + x.count(3), 4227);
        fault("by 0;", 1, 0);
        fault("5;", 1, 0);
        fault("odd;", 1, 0);
    }

    private static void linesOfPeople() {
        fault("person;", 1, 6);
        fault("blind;", 1, 5);
        fault("person 0 ;", 1, 9);
        fault("person 0 0", 1, 10);
        fault("person 0 0 person 0 0;", 1, 11);
        fault("person 0 0 by 1;", 1, 11);
        fault("person (0) 0;", 1, 7);
        fault("person 0-0;", 1, 8);
        due("blind", of("blind 0 0;person 0 0;").person(0, 3), 1);
        due("not blind", of("blind 0 0;person 0 0;").person(1, 3), 0);
    }

    private static void linesOfThings() {
        String at = "person 0 0;person 0 0;";
        fault(at + "thing;", 1, 27);
        fault(at + "thing 1;", 1, 29);
        fault(at + "thing 1 0;", 1, 31);
        fault(at + "thing 1 0 by 0;", 1, 32);
        fault(at + "thing 1 0 1 by;", 1, 36);
        fault(at + "thing 1 0 1 by 0 by 0;", 1, 39);
        fault(at + "thing 1 0 1 by 0 0;", 1, 39);
        fault(at + "thing 1 0 1 0;", 1, 34);
        fault(at + "thing 1 0 1 buy 0;", 1, 34);
        fault(at + "thing 1 0 1", 1, 33);
        due("with", of(at + "thing 1 0 1 by 0;").count(5), 1);
        due("without", of(at + "thing 1 0 1;").count(5), 0);
    }

    private static void oneTestAlone() {
        of("shames 1<2;");
        fault("shames 1<2<3;", 1, 10);
        fault("shames 1=2<3;", 1, 10);
        fault("shames 1<2=3;", 1, 10);
        fault("shames 1+1<2*2=3;", 1, 14);
        fault("shames not 1<2<3;", 1, 14);
        of("shames (1<2)<3;");
        of("shames 1<(2<3);");
        of("shames 1<2 and 2<3 or 3=4;");
        of("shames not 1<2 and not 2=3;");
        fault("shames 1<=2;", 1, 9);
        fault("shames not;", 1, 10);
        fault("shames 1 not 1;", 1, 9);
    }

    private static void fromTheLeft() {
        gives("10-3-2", 5);
        gives("10-(3-2)", 9);
        gives("20/3/2", 3);
        gives("20/(3/2)", 20);
        gives("5/2*2", 4);
        gives("5*2/2", 5);
        gives("2*3/4", 1);
        gives("7/4*3", 3);
        gives("2+3*4", 14);
        gives("2*3+4", 10);
        gives("10-2*3-1", 3);
        gives("1 or 1 and 0", 1);
        gives("0 and 1 or 1", 1);
        gives("1+1<3-0", 1);
    }

    private static void wrap() {
        gives("256*256*256*128-1=0-256*256*256*128-1", 1);
        gives("256*256*256*128<0", 1);
        gives("256*256*256*127<0", 0);
        gives("256*256*256*128-1", 20);
        gives("256*256*256*128", 0);
        gives("256*256*256*256", 0);
        gives("256*256*256*256+3", 3);
        gives("0-256*256*256*128<0", 1);
        gives("9999*9999*25", 0);
        gives("9999*9999*43<0", 0);
        gives("9999*9999*43", 20);
    }

    private static void division() {
        gives("7/2", 3);
        gives("10+(0-7)/2", 7);
        gives("10+7/(0-2)", 7);
        gives("10+(0-7)/(0-2)", 13);
        gives("1/2", 0);
        gives("10+(0-1)/2", 10);
        gives("7/0", 0);
        gives("5+7/0", 5);
        gives("5+0/0", 5);
        gives("5+(0-7)/0", 5);
        gives("7/(3-3)+4", 4);
        gives("7/1", 7);
        gives("256*256*256*128/(0-1)=256*256*256*128", 1);
        gives("(256*256*256*128-1)/(0-1)+256*256*256*128-1", 0);
    }

    private static void oneOrNothing() {
        gives("5 and 7", 1);
        gives("5 and 0", 0);
        gives("0 and 5", 0);
        gives("(0-1) and (0-1)", 1);
        gives("0 or 0", 0);
        gives("5 or 0", 1);
        gives("0 or (0-5)", 1);
        gives("not 5", 0);
        gives("not 0", 1);
        gives("not (0-1)", 0);
        gives("not not 7", 1);
        gives("3<4", 1);
        gives("4<4", 0);
        gives("5<4", 0);
        gives("4=4", 1);
        gives("4=5", 0);
        gives("0-1<0", 1);
        gives("(3<4)+(4=4)+(not 0)", 3);
        gives("5+(0 or 0)", 5);
        gives("5+(7 or 0)", 6);
        gives("5+(0 and 7)", 5);
        gives("5+(7 and 7)", 6);
        gives("5+(4<4)", 5);
        gives("5+(4=3)", 5);
        gives("5+(not 7)", 5);
    }

    private static void valuesOfShames() {
        String[] own = {"odd", "weight", "count", "eyes", "vanity", "owner", "day"};
        for (String word : own) {
            of("shames " + word + ";");
        }
        fault("shames shame;", 3, 7);
        fault("shames many;", 3, 7);
        gives("odd", 2);
        gives("weight", 5);
        gives("eyes", 2);
        gives("vanity", 3);
        WornThings x = of(TWO + "person 0 0 1;thing 1 0 2 by 0;shames count+10*owner;");
        due("no days yet, and the owner looks", x.thing(0, 5), 10);
        x.days(1);
        due("the days so far, and the owner is away", x.thing(0, 5), 1);
        x.days(1);
        due("two days, and the owner looks", x.thing(0, 5), 12);
        due("a blind owner never looks", of("person 0 0;blind 0 0;thing 1 0 1 by 0;shames owner;").thing(0, 5), 0);
        due("other eyes alone", of("person 0 0;person 0 1;person 0 0;thing 1 0 1 by 0;shames 5*owner+eyes;").thing(0, 5), 1);
        WornThings y = of(TWO + "thing 1 0 1 by 0;shames day;returns 0;term 99;");
        y.days(3);
        due("0 and 1 and 2", y.person(0, 2), 3);
        due("the day", y.thing(0, 5), 3);
    }

    private static void valuesOfReturns() {
        for (String word : new String[] {"shame", "vanity", "many", "day"}) {
            of("returns " + word + ";");
        }
        for (String word : new String[] {"odd", "weight", "count", "eyes", "owner"}) {
            fault("returns " + word + ";", 3, 8);
        }
        String worn = TWO + "thing 1 0 1 by 0;thing 1 0 1 by 0;shames 3;returns ";
        due("shame of the evening", of(worn + "shame=6;").when(0, 1), 1);
        due("shame of the evening", of(worn + "shame=12;").when(0, 1), 2);
        due("many", of(worn + "many=2;").when(0, 1), 1);
        due("not many", of(worn + "many=1;").when(0, 1), -1);
        due("vanity", of(worn + "vanity=0;").when(0, 1), 1);
        due("another vanity", of(worn + "vanity=1;").when(0, 1), -1);
        due("the day that goes by", of(worn + "day=0;").when(0, 1), 1);
        due("the day that goes by", of(worn + "day=4;").when(0, 1), 5);
    }

    private static void firstFault() {
        fault("places 9;x", 2, 7);
        fault("x;places 9;", 1, 0);
        fault("person 0 3;person 10 0;", 3, 9);
        fault("term 5;term 0;", 5, 7);
        fault("person 0 0;places 9;", 4, 11);
        fault("shames x+12345;", 3, 7);
        fault("shames 12345+x;", 2, 7);
        // a line that is sound up to its end, ahead of one that is not
        fault("person 0 0;thing 1 0 0 by 0 x", 4, 26);
    }

    private static void firstByte() {
        fault("   termite 5;", 1, 3);
        fault("\n\n\nterm 0;", 2, 8);
        fault("term \n 12345;", 2, 7);
        fault("shames  nothing;", 3, 8);
        fault("term 5; \n term 6;", 5, 10);
    }

    private static void leastFault() {
        // can't stand there and has five digits
        fault("12345;", 1, 0);
        fault("term 5 12345;", 1, 7);
        // too many digits, and no such PLACE or PERSON
        fault("person 0 12345;", 2, 9);
        fault("person 0 0;thing 1 0 12345;", 2, 21);
        fault("person 0 0;thing 1 0 0 by 12345;", 2, 26);
        // the 7th PLACE, and there is no such PLACE
        fault("person 0 0 0 0 0 0 0 9;", 2, 21);
        // within six others, and no VALUE
        fault("shames ((((((nothing))))));", 2, 13);
        // a second 'places', and behind a PERSON
        fault("places 2;person 0 0;places 2;", 4, 20);
        // the 9th PERSON is too much, whatever comes
        fault(times("person 0 0;", 8) + "blind 99999;", 2, 88);
    }

    private static void cantStand() {
        fault("term term;", 1, 5);
        fault("term ;", 1, 5);
        fault("term -5;", 1, 5);
        fault("term (5);", 1, 5);
        fault("term 5", 1, 6);
        fault("term 5 term", 1, 7);
        fault("places two;", 1, 7);
        fault("places 2,", 1, 8);
        fault("shames ;", 1, 7);
        fault("shames +1;", 1, 7);
        fault("shames 1 1;", 1, 9);
        fault("shames 1 odd;", 1, 9);
        fault("shames 1 (1);", 1, 9);
        fault("shames (1)(1);", 1, 10);
        fault("shames 1);", 1, 8);
        fault("shames (1;", 1, 9);
        fault("shames ();", 1, 8);
        fault("shames 1 and;", 1, 12);
        fault("shames 1 and or 1;", 3, 13);
        fault("shames 1 by 1;", 1, 9);
        fault("shames 1\u00002;", 1, 8);
        fault("shames \u00ff;", 1, 7);
    }

    /** A sound text cut behind each of its bytes, held against the plain model; behind a whole TOKEN also by hand. */
    private static void endsTooSoon() {
        String text = "places 4;person 1 0 3;blind 2 1;thing 5 4 1 by 0;term 3;shames (odd+1)*2<3 and not eyes;returns shame;";
        of(text);
        for (int n = 0; n <= text.length(); n++) {
            String cut = text.substring(0, n);
            WornThings x = new WornThings();
            PlainModel y = new PlainModel();
            due("cut behind " + n, tell(x, cut), y.city(fed(y, cut)));
            due("its place behind " + n, x.fault(), y.fault());
            char last = n == 0 ? ';' : text.charAt(n - 1);
            boolean whole = n == text.length() || !Character.isLetterOrDigit(text.charAt(n)) || !Character.isLetterOrDigit(last);
            if (whole) {
                due("cut there by hand " + n, x.fault(), last == ';' ? -1 : n);
            }
        }
        fault("term", 1, 4);
        fault("term   ", 1, 7);
        fault("term 5 \n", 1, 8);
        fault("shames (((((1))))", 1, 17);
        fault("shames 1+", 1, 9);
        fault("shames not", 1, 10);
        fault("ter", 1, 0);
        fault("shames od", 3, 7);
    }

    private static int fed(PlainModel y, String text) {
        for (int i = 0; i < text.length(); i += 20) {
            y.feed(number(text, i), number(text, i + 4), number(text, i + 8), number(text, i + 12), number(text, i + 16));
        }
        return text.length();
    }

    private static void fiveDigits() {
        of("places 0002;");
        fault("places 00002;", 2, 7);
        of("person 0009 0002;");
        fault("person 00009 0;", 2, 7);
        fault("person 0 00000;", 2, 9);
        of("person 0 0;person 0 0;thing 0030 0009 0001 by 0000;");
        fault("person 0 0;thing 00001 0 0;", 2, 17);
        fault("person 0 0;thing 1 00000 0;", 2, 19);
        fault("person 0 0;thing 1 0 00000;", 2, 21);
        fault("person 0 0;thing 1 0 0 by 00000;", 2, 26);
        of("term 0001;");
        fault("term 00001;", 2, 5);
        of("shames 9999;returns 0000;");
        fault("shames 00000;", 2, 7);
        fault("returns 99999;", 2, 8);
        fault("returns 4294967296;", 2, 8);
        fault("term 4294967301;", 2, 5);
    }

    private static void notAsTold() {
        fault("places 1;", 2, 7);
        fault("places 7;", 2, 7);
        fault("person 10 0;", 2, 7);
        fault("thing 0 0 0;", 2, 6);
        fault("thing 31 0 0;", 2, 6);
        fault("thing 1 10 0;", 2, 8);
        fault("term 0;", 2, 5);
        fault("term 100;", 2, 5);
        of("shames 0;returns 9999;");
    }

    private static void ninthPerson() {
        String eight = times("person 0 0;", 8);
        of(eight);
        fault(eight + "person 0 0;", 2, 88);
        fault(eight + "blind 0 0;", 2, 88);
        fault(eight + " person", 2, 89);
        fault(times("blind 0 0;", 8) + "person 0 0;", 2, 80);
        of(eight + "thing 1 0 7 by 0;term 5;");
    }

    private static void eleventhThing() {
        String ten = "person 0 0;" + times("thing 1 0 0;", 10);
        of(ten);
        fault(ten + "thing 1 0 0;", 2, 131);
        fault(ten + "\nthing", 2, 132);
        of(ten + "person 0 0;term 5;");
    }

    private static void seventhPlace() {
        of("person 0 0 0 0 0 0 0;");
        fault("person 0 0 0 0 0 0 0 0;", 2, 21);
        fault("person 0 0 0 0 0 0 0 0 0;", 2, 21);
        fault("blind 0 0 0 0 0 0 0 3;", 2, 20);
        fault("person 0 0 0 0 0 0 0 x;", 1, 21);
        fault("person 0 0 0 0 0 0 3;", 3, 19);
    }

    private static void withinSix() {
        of("shames (((((1)))));");
        of("returns (((((not not shame)))));");
        of("shames (((((1)))))+(((((odd)))));");
        fault("shames ((((((1))))));", 2, 13);
        fault("shames ((((((odd))))));", 2, 13);
        fault("shames ((((((shame))))));", 2, 13);
        fault("shames ((((((and))))));", 2, 13);
        fault("shames ((((((not 1))))));", 2, 13);
        fault("shames ((((((places))))));", 2, 13);
        fault("shames (((((((1)))))));", 2, 13);
        fault("shames (((((()", 1, 13);
        fault("shames ((((((;", 1, 13);
        fault("shames ((((((+1", 1, 13);
        fault("shames ((((((", 1, 13);
        fault("shames (((((1)))))+((((((1", 2, 25);
        fault("shames (1+(1+(1+(1+(1+(1+1))))));", 2, 23);
        of("shames (1+(1+(1+(1+(1+1)))));");
    }

    private static void seventhNot() {
        String six = times("not ", 6);
        of("shames " + six + "1;");
        fault("shames " + six + "not 1;", 2, 31);
        fault("shames " + six + "not", 2, 31);
        of("shames " + six + "1 and " + six + "1 or " + six + "1;");
        of("shames " + six + "(" + six + "1);");
        fault("shames 1 or " + six + "not 1;", 2, 36);
        fault("shames (" + six + "not 1);", 2, 32);
        of("shames (" + six + "1)+(" + six + "1);");
        gives(six + "5", 1);
        gives(six.substring(4) + "5", 0);
    }

    private static void noValue() {
        for (String word : new String[] {"x", "and", "or", "by", "term", "shames", "od", "oddd", "shame", "many"}) {
            fault("shames " + word + ";", 3, 7);
            fault("shames 1+" + word + ";", 3, 9);
            fault("shames (" + word + ");", 3, 8);
            fault("shames not " + word + ";", 3, 11);
        }
        fault("returns odd;", 3, 8);
        fault("returns 1 and eyes;", 3, 14);
        fault("shames 1+not 1;", 3, 9);
        fault("shames 1*not 1;", 3, 9);
        fault("shames 1<not 1;", 3, 9);
        of("shames 1+(not 1);");
        fault("shames 1 x;", 1, 9);
    }

    private static void noSuchPlace() {
        of("places 2;person 0 1;");
        fault("places 2;person 0 2;", 3, 18);
        of("places 6;person 0 5;");
        fault("places 6;person 0 6;", 3, 18);
        of("person 0 2;");
        fault("person 0 3;", 3, 9);
        fault("blind 0 0 1 2 3;", 3, 14);
        fault("person 0 9999;", 3, 9);
    }

    private static void noSuchPerson() {
        of(TWO + "thing 1 0 1;");
        fault(TWO + "thing 1 0 2;", 3, 32);
        of(TWO + "thing 1 0 0 by 1;");
        fault(TWO + "thing 1 0 0 by 2;", 3, 37);
        fault("thing 1 0 0;person 0 0;", 3, 10);
        fault("person 0 0;thing 1 0 1;person 0 0;", 3, 21);
        fault("person 0 0;thing 1 0 0 by 1;person 0 0;", 3, 26);
        fault("person 0 0;thing 1 0 9999;", 3, 21);
    }

    private static void byTheOwner() {
        fault("person 0 0;thing 1 0 0 by 0;", 4, 26);
        fault(TWO + "thing 1 0 1 by 1;", 4, 37);
        fault(TWO + "thing 1 0 1 by 0001;", 4, 37);
        of(TWO + "thing 1 0 1 by 0;thing 1 0 0 by 1;");
    }

    private static void placesTooLate() {
        fault("person 0 0;places 3;", 4, 11);
        fault("blind 0 0;places 3;", 4, 10);
        fault("person 0 0;places", 4, 11);
        of("term 5;shames 1;returns 0;places 6;person 0 5;");
    }

    private static void second() {
        fault("places 2;places 2;", 5, 9);
        fault("places 2;places", 5, 9);
        fault("term 5;term 5;", 5, 7);
        fault("shames 1;shames 1;", 5, 9);
        fault("returns 1;returns 1;", 5, 10);
        fault("returns 0;term 3;returns x", 5, 17);
        of("places 2;term 5;shames 1;returns 1;");
        WornThings x = of("places 2;term 5;shames 1;returns 1;");
        due("again in another text", tell(x, "places 2;term 5;shames 1;returns 1;"), 0);
    }

    private static void feed() {
        WornThings x = new WornThings();
        due("20", x.feed(' ', ' ', ' ', ' ', ' '), 20);
        due("tape", x.count(10), 20);
        due("40", x.feed(0, 0, 0, 0, 0), 40);
        due("a zero byte is the first", x.city(1), 1);
        WornThings y = new WornThings();
        y.feed(number("term", 0), number(" 7; ", 0), -1, LEAST_INT, GREATEST_INT);
        due("the highest first", y.city(7), 0);
        due("term", y.count(3), 7);
        for (int i = 0; i < 5; i++) {
            WornThings z = new WornThings();
            int[] n = {0x20202020, 0x20202020, 0x20202020, 0x20202020, 0x20202020};
            n[i] = 0x20202041;
            z.feed(n[0], n[1], n[2], n[3], n[4]);
            due("the lowest byte of number " + i, z.city(20), 1);
            due("its place", z.fault(), 4 * i + 3);
        }
        WornThings w = new WornThings();
        w.feed(0x80202020, 0, 0, 0, 0);
        due("a byte above 127", w.city(20), 1);
        due("its place", w.fault(), 0);
    }

    private static void tapeIsFull() {
        WornThings x = new WornThings();
        int blanks = 0x20202020;
        for (int i = 1; i <= 35; i++) {
            due("feed", x.feed(blanks, blanks, blanks, blanks, blanks), 20 * i);
        }
        due("the 36th", x.feed(0, 0, 0, 0, 0), -1);
        due("tape", x.count(10), 700);
        due("nothing counts as refused", x.count(11) + x.count(12) + x.count(13), 0);
        due("none came", x.city(700), 0);
        due("empty", x.count(10), 0);
        due("from the front again", x.feed(0, 0, 0, 0, 0), 20);
    }

    private static void firstBytes() {
        WornThings x = new WornThings();
        put(x, "term 5;term 6;");
        due("the first seven", x.city(7), 0);
        due("term", x.count(3), 5);
        due("empty", x.count(10), 0);
        illegal("nothing is left of it", () -> x.city(1));
        put(x, "places 4;person 0 3;");
        due("all", x.city(20), 0);
        due("all anew", x.count(3), 10);
        due("people", x.count(1), 1);
        put(x, "x");
        due("a fault", x.city(1), 1);
        due("empty too", x.count(10), 0);
        put(x, "x");
        due("no bytes at all", x.city(0), 0);
        due("nobody any more", x.count(1), 0);
        due("three places", x.count(0), 3);
        due("empty", x.count(10), 0);
        WornThings y = of("shames 7;returns 1;person 0 0;person 0 0;thing 1 9 1 by 0;");
        due("a rule", y.thing(0, 5), 7);
        tell(y, "person 0 0;person 0 0;thing 1 9 1 by 0;");
        due("no rule any more", y.thing(0, 5), 10);
        due("no other rule any more", y.when(0, 1), 4);
        againAndAgain();
    }

    /** Whatever was told ahead, with a fault or without, each text is read as if it were the first. */
    private static void againAndAgain() {
        WornThings x = new WornThings();
        String people = "places 5;term 7;shames 3;returns 1;" + times("blind 9 4 4;", 8) + times("thing 30 9 7 by 6;", 10);
        String few = "places 4;term 8;shames 4;returns 0;person 1 3;person 2 0 1;thing 5 6 0;thing 4 3 1 by 0;";
        for (int i = 0; i < 6; i++) {
            due("many", tell(x, people), 0);
            due("with a fault at the end", tell(x, few + "x"), 1);
            due("many stay", x.count(1) * 100 + x.count(2), 810);
            due("few", tell(x, few), 0);
            due("people and things", x.count(1) * 100 + x.count(2), 202);
            due("places and term", x.count(0) * 100 + x.count(3), 408);
            due("not blind", x.person(0, 3), 0);
            due("not worn", x.thing(0, 3), -1);
            due("worn", x.thing(1, 3), 0);
            due("rule", x.thing(1, 5), 4);
            due("other rule", x.when(1, 1), -1);
            due("a walk of one", x.where(0, 2, 0), 3);
            due("with a fault at the end", tell(x, people + "x"), 1);
            due("nothing", tell(x, ""), 0);
            due("nobody", x.count(1) + x.count(2), 0);
            due("without", x.count(0) * 100 + x.count(3), 310);
        }
        rulesAgainAndAgain();
    }

    private static void rulesAgainAndAgain() {
        WornThings x = new WornThings();
        due("within six others", tell(x, "shames 1+((((((1"), 2);
        due("within five others", tell(x, TWO + "thing 1 0 1 by 0;shames (((((9)))))*2;"), 0);
        due("what it gives", x.thing(0, 5), 18);
        due("seven of them", tell(x, "shames " + times("not ", 7)), 2);
        due("six of them", tell(x, TWO + "thing 1 0 1 by 0;shames " + times("not ", 6) + "9;"), 0);
        due("what it gives", x.thing(0, 5), 1);
        due("ends too soon", tell(x, "shames 1 or 2<3*(1+"), 1);
        due("ends well", tell(x, TWO + "thing 1 0 1 by 0;shames 2+3*4-1;"), 0);
        due("what it gives", x.thing(0, 5), 13);
    }

    private static void allStays() {
        for (String text : new String[] {"x", "places 2;places 3;", "person 0 0;thing 1 0 0;term 4;shames 1;returns 1;x", "term"}) {
            WornThings x = busy();
            WornThings y = busy();
            due("the bytes that a busy object has on its tape are no text", x.city(20), 1);
            due("fault of " + text, tell(x, text) > 0 ? 1 : 0, 1);
            due("refused", x.count(11), y.count(11) + 2);
            alike("behind a fault", x, y, "count 10", "count 11", "fault");
        }
    }

    private static void allGone() {
        WornThings x = busy();
        int texts = x.count(11);
        int acts = x.count(12);
        int notes = x.count(13);
        due("status 0", texts, 1);
        due("status 1", acts, 1);
        due("status 2", notes, 1);
        due("a new city", x.city(0), 0);
        due("acts", x.count(8), 0);
        due("undo", x.undo(), -1);
        due("noted", x.count(9), 0);
        due("image", x.restore() ? 1 : 0, 0);
        due("day", x.count(4), 0);
        due("the same people", tell(x, SMALL), 0);
        for (int i = 0; i < 3; i++) {
            due("no shame", x.person(i, 2), 0);
            due("no days", x.thing(i, 4), 0);
        }
        x.days(3);
        due("shame and days", x.person(0, 2) > 0 && x.thing(0, 4) > 0 ? 1 : 0, 1);
        due("the same people", tell(x, SMALL), 0);
        due("shame", x.count(7), 0);
        due("days", x.thing(0, 4), 0);
        due("owner", x.thing(0, 2), 1);
        due("status 0", x.count(11), texts);
        due("status 1", x.count(12), acts);
        due("status 2", x.count(13), notes);
    }

    private static void notSoMany() {
        changesNothing("city(21)", x -> x.city(21), 2);
        changesNothing("city(-1)", x -> x.city(-1), 2);
        changesNothing("city of the least int", x -> x.city(LEAST_INT), 2);
        changesNothing("city of the greatest int", x -> x.city(GREATEST_INT), 2);
        WornThings x = new WornThings();
        illegal("1 of nothing", () -> x.city(1));
        due("0 of nothing", x.city(0), 0);
        put(x, " ");
        illegal("21 of 20", () -> x.city(21));
        due("20 of 20", x.city(20), 0);
    }

    private static void placeOfTheFault() {
        WornThings x = new WornThings();
        due("without any city", x.fault(), -1);
        due("a fault", tell(x, "   x"), 1);
        due("its place", x.fault(), 3);
        illegal("no city at all", () -> x.city(1));
        due("the place stays", x.fault(), 3);
        due("another fault", tell(x, "term 0;"), 2);
        due("its place", x.fault(), 5);
        due("no fault", tell(x, "term 1;"), 0);
        due("none", x.fault(), -1);
        due("at the first byte", tell(x, "x"), 1);
        due("its place", x.fault(), 0);
    }

    private static void statusOfTexts() {
        WornThings x = new WornThings();
        due("none yet", x.count(11), 0);
        for (int i = 1; i <= 3; i++) {
            tell(x, "x");
            due("refused", x.count(11), i);
            tell(x, "");
            due("sound ones don't count", x.count(11), i);
            illegal("n", () -> x.city(1));
            due("nor what throws", x.count(11), i);
        }
    }
}
