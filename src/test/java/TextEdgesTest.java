/** The edges of a text and of its people (Terms 1, promises 1 to 6): each bound just inside and just outside. */
final class TextEdgesTest {
    private static final String TEN = "house lines 1;" + "person 1;".repeat(10);

    private TextEdgesTest() {
    }

    public static void main(String[] args) {
        withoutText();
        lengthOfText();
        linesOfViews();
        howManyViews();
        boundsOfViews();
        viewsThatItHasNot();
        boundsOfIn();
        alwaysWithoutIn();
        boundsOfTemperAndWeight();
        boundsOfDay();
        laterFlagsStrike();
        laterLawsAndDaysStrike();
        tenPeople();
        tokensGoOn();
        eachByte();
        digits();
        theEndOfTheText();
        houseFirstAndOnce();
        wordsOfOtherLaws();
        sixWithinOneAnother();
        leastKindOfOneToken();
        firstAlongTheText();
        linesOfText();
        houseBeginsAnew();
        whatOfPerson();
        boundsOfTown();
        whoIsAwayNow();
        Due.end();
    }

    /** The place is where ^ stands in the text, which is taken out. */
    private static void fault(int kind, String marked) {
        int place = marked.indexOf('^');
        String text = marked.replace("^", "");
        OppositeHouse x = new OppositeHouse();
        Due.is("house of " + text, Due.tell(x, text), -30 - kind);
        Due.is("fault of " + text, x.fault(0), kind);
        Due.is("place of " + text, x.fault(1), place);
        Due.is("people behind " + text, x.count(1), 0);
    }

    /** A text without a fault: what house() answers is its number of lines, one for each ; in it. */
    private static OppositeHouse sound(String text) {
        OppositeHouse x = new OppositeHouse();
        Due.is("house of " + text, Due.tell(x, text), text.chars().filter(c -> c == ';').count());
        Due.is("fault of " + text, x.fault(0), 0);
        Due.is("place of " + text, x.fault(1), -1);
        return x;
    }

    /** "(without one: 1 LINE, no PEOPLE)"; promise 1. */
    private static void withoutText() {
        OppositeHouse x = new OppositeHouse();
        Due.is("lines of views", x.count(0), 1);
        Due.is("people", x.count(1), 0);
        Due.is("no person 0", x.person(0, 0), -2);
        Due.is("the empty set sits", x.sits(0), 1);
        Due.is("no other set is", x.sits(1), -3);
    }

    /** "a TEXT of at most 900 bytes"; "-5: it would have more than 900"; "the first n bytes of THE TAPE". */
    private static void lengthOfText() {
        String text = "house lines 1;" + " ".repeat(877) + "person 7;";
        Due.is("its length", text.length(), 900);
        OppositeHouse x = sound(text);
        Due.is("what stands at its end", x.person(0, 0), 7);
        Due.feed(x, text.getBytes());
        Due.is("45 times 20 bytes", x.count(7), 900);
        Due.is("20 more", x.feed(0, 0, 0, 0, 0), -5);
        Due.is("the tape stays", x.count(7), 900);
        Due.is("901 of 900", x.house(901), -3);
        Due.is("the tape stays", x.count(7), 900);
        Due.is("899 of 900: without the last ;", x.house(899), -32);
        Due.is("the end is what was told", x.fault(1), 899);
        Due.is("the tape is empty then", x.count(7), 0);
        Due.is("1 of 0", x.house(1), -3);
        Due.feed(x, text.substring(0, 880).getBytes());
        Due.is("880 have place for 20", x.feed(0x20202020, 0x20202020, 0x20202020, 0x20202020, 0x20202020), 900);
        Due.is("all of them", x.house(900), 1);
    }

    /** "lines: how many VIEWS each has, 1 to 3". */
    private static void linesOfViews() {
        fault(3, "house lines ^0;");
        fault(3, "house lines ^4;");
        fault(3, "house lines ^999;");
        for (int n = 1; n <= 3; n++) {
            Due.is("lines of views", sound("house lines " + n + ";").count(0), n);
        }
    }

    /** "person: as many VIEWS"; "too many VIEWS, too few: what stands in place of one". */
    private static void howManyViews() {
        for (int n = 1; n <= 3; n++) {
            String start = "house lines " + n + ";person";
            sound(start + " 5".repeat(n) + ";");
            for (int few = 0; few < n; few++) {
                fault(2, start + " 5".repeat(few) + " ^;");
                fault(2, start + " 5".repeat(few) + " ^temper 5;");
                fault(2, start + " 5".repeat(few) + "^");
            }
            fault(2, start + " 5".repeat(n) + " ^5;");
            fault(2, start + " 5".repeat(n) + " ^5 5 5;");
            fault(2, start + " 5".repeat(n) + " temper 5 ^5;");
        }
    }

    /** "VIEWS, 0 to 9". */
    private static void boundsOfViews() {
        OppositeHouse x = sound("house lines 3;person 0 9 0;person 9 0 9;");
        Due.is("0", x.person(0, 0), 0);
        Due.is("9", x.person(0, 1), 9);
        Due.is("9 of war", x.person(1, 2), 9);
        fault(3, "house lines 3;person ^10 0 0;");
        fault(3, "house lines 3;person 0 ^10 0;");
        fault(3, "house lines 3;person 0 0 ^10;");
    }

    /** "(of ease, of faith, of war; 0 those it hasn't)". */
    private static void viewsThatItHasNot() {
        OppositeHouse x = sound("house lines 1;person 9;");
        Due.is("ease", x.person(0, 0), 9);
        Due.is("no faith", x.person(0, 1), 0);
        Due.is("no war", x.person(0, 2), 0);
        x = sound("house lines 2;person 9 8;");
        Due.is("faith", x.person(0, 1), 8);
        Due.is("no war", x.person(0, 2), 0);
        x = sound("house lines 3;person 9 8 7;");
        Due.is("war", x.person(0, 2), 7);
    }

    /** "in: from which DAY to which one it is in town, 0 to 999, the second not below the first". */
    private static void boundsOfIn() {
        OppositeHouse x = sound("house lines 1;person 1 in 0 to 0;person 1 in 999 to 999;person 1 in 0 to 999;");
        Due.is("on day 0", x.count(2), 5);
        Due.is("on day 1", x.town(1), 4);
        Due.is("on day 998", x.town(998), 4);
        Due.is("on day 999", x.town(999), 6);
        x.days(1);
        Due.is("on day 1000", x.town(999), 0);
        sound("house lines 1;person 1 in 5 to 5;");
        fault(3, "house lines 1;person 1 in 5 to ^4;");
        fault(3, "house lines 1;person 1 in 999 to ^998;");
        fault(3, "house lines 1;person 1 in 1 to ^0;");
        fault(1, "house lines 1;person 1 in ^1000 to 999;");
        fault(1, "house lines 1;person 1 in 0 to ^1000;");
        fault(2, "house lines 1;person 1 in 5 ^;");
        fault(2, "house lines 1;person 1 in 5 to ^temper 5;");
    }

    /** "(always without)"; promise 5: "its last one (999, too, if always)". */
    private static void alwaysWithoutIn() {
        OppositeHouse x = sound("house lines 1;person 1;person 1 in 0 to 999;day 999;");
        Due.is("first day of one who always is", x.person(0, 3), 0);
        Due.is("last day of one who always is", x.person(0, 4), 999);
        Due.is("both on day 999", x.count(2), 3);
        Due.is("the one alone on day 1000", x.days(1), 1);
        Due.is("its last day as before", x.person(0, 4), 999);
        Due.is("in town behind it", x.person(0, 8), 1);
        Due.is("the other isn't", x.person(1, 8), 0);
        Due.is("999 days later, too", x.town(999), 1);
    }

    /** "temper: how likely it comes, in 10, 0 to 10 (10); weight 1 to 99 (1)". */
    private static void boundsOfTemperAndWeight() {
        OppositeHouse x = sound("house lines 1;person 1;person 1 temper 0 weight 1;person 1 temper 10 weight 99;");
        Due.is("temper without", x.person(0, 5), 10);
        Due.is("weight without", x.person(0, 6), 1);
        Due.is("temper 0", x.person(1, 5), 0);
        Due.is("weight 1", x.person(1, 6), 1);
        Due.is("temper 10", x.person(2, 5), 10);
        Due.is("weight 99", x.person(2, 6), 99);
        fault(3, "house lines 1;person 1 temper ^11;");
        fault(3, "house lines 1;person 1 weight ^0;");
        fault(3, "house lines 1;person 1 weight ^100;");
        fault(2, "house lines 1;person 1 temper ^;");
        fault(2, "house lines 1;person 1 weight ^-1;");
    }

    /** "day: the first one, 0 to 999 (0)". */
    private static void boundsOfDay() {
        Due.is("without", sound("house lines 1;").count(4), 0);
        Due.is("0", sound("house lines 1;day 0;").count(4), 0);
        Due.is("999", sound("house lines 1;day 999;").count(4), 999);
        fault(1, "house lines 1;day ^1000;");
        OppositeHouse x = sound("house lines 1;day 999;");
        Due.tell(x, "house lines 1;");
        Due.is("without, in a house behind", x.count(4), 0);
    }

    /** "later ones of a flag strike". */
    private static void laterFlagsStrike() {
        OppositeHouse x = sound("house lines 1;person 1 in 2 to 3 temper 4 weight 5 in 6 to 7 temper 8 weight 9;person 1;");
        Due.is("first day", x.person(0, 3), 6);
        Due.is("last day", x.person(0, 4), 7);
        Due.is("temper", x.person(0, 5), 8);
        Due.is("weight", x.person(0, 6), 9);
        Due.is("not of the next one", x.person(1, 5), 10);
        x = sound("house lines 1;person 1 in 500 to 600 in 2 to 3;");
        Due.is("the second may be below the first of an earlier one", x.person(0, 4), 3);
        fault(3, "house lines 1;person 1 temper ^11 temper 1;");
        fault(3, "house lines 1;person 1 weight 1 weight ^0;");
        fault(3, "house lines 1;person 1 in 2 to 3 in 5 to ^4;");
    }

    /** "Later ones of laws, day strike." */
    private static void laterLawsAndDaysStrike() {
        OppositeHouse x = sound("house lines 1;person 0;person 0;opposes:1=1;opposes:1=2;ayes:1=1;ayes:1=2;"
                + "sways:1;sways:0;day 5;day 6;");
        Due.is("opposes", x.opposed(0, 1), 0);
        Due.is("ayes", x.ayes(0), 0);
        x.talk(0, 1);
        Due.is("sways", x.person(0, 0), 0);
        Due.is("day", x.count(4), 6);
        x = sound("house lines 1;day 6;day 0;");
        Due.is("a later day of 0", x.count(4), 0);
        x = sound("house lines 1;person 4;person 5;opposes:1=2;");
        Due.tell(x, "house lines 1;person 4;person 5;");
        Due.is("a law of another house strikes none", x.opposed(0, 1), 1);
    }

    /** "numbered from 0 on, 10 at most"; "4 the first TOKEN of an 11th person". */
    private static void tenPeople() {
        OppositeHouse x = sound(TEN);
        Due.is("ten", x.count(1), 10);
        Due.is("0 to 9", x.person(9, 0), 1);
        Due.is("no 10", x.person(10, 0), -2);
        Due.is("nine", sound("house lines 1;" + "person 1;".repeat(9)).count(1), 9);
        fault(4, TEN + "^person 1;");
        fault(4, TEN + "^person");
        fault(4, TEN + "^person 99;");
        fault(4, TEN + "^person ?");
        fault(4, TEN + "day 3;opposes:1=1; ^person 1;");
        sound(TEN + "day 3;opposes:1=1;");
    }

    /** "TOKENS, as long as they go on, between them blanks (10, 32)". */
    private static void tokensGoOn() {
        OppositeHouse x = sound("house lines 2;person 1 2in 3to 4temper5weight6;day7;");
        Due.is("words and numbers part by themselves", x.person(0, 6), 6);
        Due.is("day", x.count(4), 7);
        fault(2, "^houselines 1;");
        fault(2, "house ^lineslines 1;");
        fault(2, "house lines 1;^da y 3;");
        fault(2, "house lines 1;day 1 ^2;");
        fault(2, "house lines 2;person 1 ^;");
        fault(3, "house lines 2;person ^12;");
        fault(2, "house lines 1;ayes:1=^=1;");
        fault(2, "house lines 1;ayes:1<^>1;");
        fault(2, "house lines 1;ayes:1=^-1;");
        fault(2, "house lines 1;ayes^;:1=1;");
        sound("house\nlines\n1\n;\n");
        sound("\n\n  house \n lines 1 ; \n ");
        sound("house lines 1;ayes:not[not(1)*(2)=who+ease*faith-bill]and day<5 or war>2;");
        fault(2, "house lines 1;ayes:^noteasy=1;");
    }

    /** "words (small letters), N, the signs ; : + - * ( ) [ ] = < >"; "1 no TOKEN begins so". */
    private static void eachByte() {
        for (int b = 0; b < 256; b++) {
            char c = (char) b;
            String text = "house lines 1;" + c;
            boolean begins = c >= 'a' && c <= 'z' || c >= '0' && c <= '9' || ";:+-*()[]=<>".indexOf(c) >= 0;
            if (b == 10 || b == 32) {
                sound(text);
            } else {
                OppositeHouse x = new OppositeHouse();
                Due.is("byte " + b, Due.tell(x, text), begins ? -32 : -31);
                Due.is("its place", x.fault(1), 14);
            }
        }
    }

    /** "N (1 to 3 digits)"; "(4 digits and more: at their first)". */
    private static void digits() {
        Due.is("1 digit", sound("house lines 1;day 7;").count(4), 7);
        Due.is("2 digits", sound("house lines 1;day 07;").count(4), 7);
        Due.is("3 digits", sound("house lines 1;day 007;").count(4), 7);
        fault(1, "house lines 1;day ^0007;");
        fault(1, "house lines 1;day ^00000000000000000007;");
        fault(1, "house lines 1;day^0007;");
        fault(1, "house lines 1;ayes:ease=^1000;");
        sound("house lines 1;ayes:ease=999;");
    }

    /** "2 it can't stand there (the end: the text's length". */
    private static void theEndOfTheText() {
        String[] tokens = {"house", "lines", "1", ";", "person", "1", "in", "2", "to", "3", ";", "opposes", ":", "not",
            "[", "1", "=", "(", "2", ")", "]", ";"};
        StringBuilder text = new StringBuilder();
        for (String token : tokens) {
            boolean mayEnd = text.length() > 0 && text.charAt(text.length() - 2) == ';';
            if (mayEnd) {
                sound(text.toString());
            } else {
                fault(2, text + "^");
                fault(2, text + "\n \n^");
            }
            text.append(token).append(' ');
        }
        sound(text.toString());
        OppositeHouse x = new OppositeHouse();
        Due.feed(x, "house lines 1;".getBytes());
        Due.is("13 bytes of 20", x.house(13), -32);
        Due.is("the end is where n tells", x.fault(1), 13);
        Due.is("nothing at all", x.house(0), -32);
        Due.is("its end", x.fault(1), 0);
    }

    /** "house must be told first, and once". */
    private static void houseFirstAndOnce() {
        fault(2, "^person 1;house lines 1;");
        fault(2, "^day 1;");
        fault(2, "^;");
        fault(2, "^1;");
        fault(2, "house lines 1;^house lines 1;");
        fault(2, "house lines 1;day 1;^house lines 2;");
        fault(2, "house ^house lines 1;");
    }

    /** "a word of another law": in opposes, sways unease, unfaith, unwar, other; in ayes bill; in sways line. */
    private static void wordsOfOtherLaws() {
        String[] laws = {"opposes : 0 = ", "ayes : 0 = ", "sways : 0 + "};
        String[] names = {"ease", "faith", "war", "who", "day", "unease", "unfaith", "unwar", "other", "bill", "line"};
        String[] allowed = {"111111111" + "00", "11111" + "0000" + "10", "111111111" + "01"};
        for (int law = 0; law < 3; law++) {
            for (int name = 0; name < names.length; name++) {
                if (allowed[law].charAt(name) == '1') {
                    sound("house lines 1;" + laws[law] + names[name] + ";");
                } else {
                    fault(2, "house lines 1;" + laws[law] + "^" + names[name] + ";");
                }
            }
            for (String word : new String[] {"house", "lines", "person", "in", "to", "temper", "weight", "opposes", "ayes",
                "sways", "or", "and", "not", "zaz", "e", "easee", "unday"}) {
                fault(2, "house lines 1;" + laws[law] + "^" + word + ";");
            }
        }
    }

    private static void nested(String opens, String inner, String closes) {
        sound("house lines 1;ayes : " + opens + inner + closes + ";");
    }

    /** "At most six of not [ ( within one another."; "a seventh of not [ (". */
    private static void sixWithinOneAnother() {
        for (int outer = 0; outer <= 6; outer++) {
            for (int kinds = 0; kinds < 1 << outer; kinds++) {
                StringBuilder opens = new StringBuilder();
                StringBuilder closes = new StringBuilder();
                for (int i = 0; i < outer; i++) {
                    boolean isNot = (kinds >> i & 1) == 1;
                    opens.append(isNot ? "not " : "[ ");
                    closes.insert(0, isNot ? "" : " ]");
                }
                String sums = "( ".repeat(6 - outer) + "1" + " )".repeat(6 - outer);
                nested(opens.toString(), sums + " = " + sums, closes.toString());
                String full = "house lines 1;ayes : " + opens + "( ".repeat(6 - outer);
                fault(4, full + "^( 1 ) = 1" + closes + ";");
                if (outer == 6) {
                    fault(4, full + "^not 1 = 1" + closes + ";");
                    fault(4, full + "^[ 1 = 1 ]" + closes + ";");
                    fault(4, full + "1 = ^( 1 )" + closes + ";");
                    fault(4, full + "1 = 1 * ^(");
                }
            }
        }
        sound("house lines 1;sways : ((((((1)))))) + ((((((2))))));");
        fault(4, "house lines 1;sways : ((((((1 + ^(2)))))));");
        fault(4, "house lines 1;opposes : not not not not not not ^not 1 = 1;");
    }

    /** "of one TOKEN the least kind". */
    private static void leastKindOfOneToken() {
        fault(1, "^1234");
        fault(1, "house lines 1;^1234");
        fault(1, "house lines ^1234");
        fault(1, TEN + "^Person 1;");
        fault(2, "house lines 1;person 1 ^10;");
        fault(2, "house lines ^;");
        fault(2, "house lines 1;day 1 ^999;");
        fault(2, "house lines 1;person 1 in 5 to 6 ^4;");
        fault(2, TEN.substring(0, TEN.length() - 1) + " ^person 1;");
        fault(2, TEN + "day ^person 1;");
        fault(2, "house lines 1;sways : (((((( ^[ 1;");
        fault(2, "house lines 1;sways : (((((( ^not 1;");
        fault(2, "house lines 1;ayes : [[[[[[ 1 ^[ 1;");
        fault(2, "house lines 1;ayes : [[[[[[ 1 = 1 ^( 1;");
        fault(2, "house lines 1;ayes : not not not not not not 1 = 1 ^not 1;");
    }

    /** "FAULTS, the first along the text". */
    private static void firstAlongTheText() {
        String[] spoilt = {"?", "; ;", "day 1 temper", "person 99", "opposes : ((((((("};
        for (String later : spoilt) {
            fault(1, "house lines 1; ^! " + later);
            fault(2, "house lines 1; ^; " + later);
            fault(3, "house lines 1; person ^99 " + later);
            fault(4, "house lines 1; sways : ((((((^( " + later);
            fault(4, TEN + "^person " + later);
        }
    }

    /** Promise 3: "how many LINES of text (house, too". */
    private static void linesOfText() {
        OppositeHouse x = sound("house lines 1;");
        Due.is("house alone", x.count(8), 1);
        Due.is("struck ones, too", sound("house lines 1;day 1;day 2;day 3;").count(8), 4);
        String many = "house lines 1;" + "day 1;".repeat(147) + "    ";
        Due.is("its length", many.length(), 900);
        Due.is("148", sound(many).count(8), 148);
    }

    /** Promise 3: "(which is empty then)", "nobody is AWAY, nothing can be UNDONE". */
    private static void houseBeginsAnew() {
        OppositeHouse x = sound("house lines 1;person 4;person 5;day 9;");
        x.talk(0, 1);
        x.send(0);
        x.days(1);
        Due.is("three can be undone", x.count(6), 3);
        Due.feed(x, "house lines 1;person 7;person 8;     ".getBytes());
        Due.is("the first 23 bytes of 40", x.house(23), 2);
        Due.is("the rest is gone, too", x.count(7), 0);
        Due.is("one person", x.count(1), 1);
        Due.is("its views", x.person(0, 0), 7);
        Due.is("nobody is away", x.count(3), 0);
        Due.is("nothing can be undone", x.count(6), 0);
        Due.is("nothing can be undone", x.undo(1), -3);
        Due.is("day", x.count(4), 0);
        x.send(0);
        Due.tell(x, "house lines 1;person 4;person 5;day 9;");
        Due.is("nobody is away", x.count(2), 3);
        Due.is("views as told", x.person(0, 0), 4);
    }

    /** Promise 5: what 0 to 8 of people 0 to 9; "-2". */
    private static void whatOfPerson() {
        OppositeHouse x = sound("house lines 3;" + "person 0 0 0;".repeat(9) + "person 7 8 9 in 5 to 6 temper 3 weight 44;day 6;");
        long[] due = {7, 8, 9, 5, 6, 3, 44, 0, 1};
        for (int what = 0; what < due.length; what++) {
            Due.is("person(9, " + what + ")", x.person(9, what), due[what]);
            Due.is("person(10, " + what + ")", x.person(10, what), -2);
            Due.is("person(-1, " + what + ")", x.person(-1, what), -2);
        }
        Due.is("what -1", x.person(9, -1), -2);
        Due.is("what 9", x.person(9, 9), -2);
        x.send(9);
        Due.is("away", x.person(9, 7), 1);
        Due.is("not in town", x.person(9, 8), 0);
        x.call(9);
        x.days(1);
        Due.is("not away", x.person(9, 7), 0);
        Due.is("not in town on day 7", x.person(9, 8), 0);
    }

    /** Promise 6: "in n DAYS (0 to 999"; "-3". */
    private static void boundsOfTown() {
        OppositeHouse x = sound("house lines 1;" + "person 0;".repeat(8) + "person 0 in 999 to 999;person 0 in 0 to 0;");
        Due.is("-1", x.town(-1), -3);
        Due.is("0", x.town(0), 767);
        Due.is("1", x.town(1), 255);
        Due.is("998", x.town(998), 255);
        Due.is("999", x.town(999), 511);
        Due.is("1000", x.town(1000), -3);
        x.days(1);
        Due.is("998, a day later", x.town(998), 511);
        Due.is("999, a day later", x.town(999), 255);
        Due.is("1000, a day later", x.town(1000), -3);
        Due.is("without people", new OppositeHouse().town(999), 0);
    }

    /** "(who is AWAY now isn't)". */
    private static void whoIsAwayNow() {
        OppositeHouse x = sound("house lines 1;person 0;person 0 in 5 to 6;");
        x.send(0);
        x.send(1);
        for (int n : new int[] {0, 4, 5, 6, 7, 999}) {
            Due.is("nobody in " + n, x.town(n), 0);
        }
        x.call(1);
        Due.is("1 in 5", x.town(5), 2);
        Due.is("nobody in 7", x.town(7), 0);
    }
}
