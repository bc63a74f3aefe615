/** Promises 1 to 8: a new object, the tape, the text, people, who is in town, who opposes whom. */
final class HouseTest {
    private HouseTest() {
    }

    public static void main(String[] args) {
        newObject();
        feed();
        house();
        houseWithFault();
        fault();
        person();
        flags();
        town();
        townBeyondTheLastDay();
        opposedWithoutLaw();
        opposedByLaw();
        lawsOfDays();
        lawsOfSigns();
        lawsKeptInBounds();
        laterLawsStrike();
        Due.end();
    }

    private static void newObject() {
        OppositeHouse x = new OppositeHouse();
        Due.is("new: lines of views", x.count(0), 1);
        Due.is("new: people", x.count(1), 0);
        for (int what = 2; what <= 8; what++) {
            Due.is("new: count(" + what + ")", x.count(what), 0);
        }
        Due.is("new: fault", x.fault(0), 0);
        Due.is("new: its place", x.fault(1), -1);
        Due.is("new: sits(0)", x.sits(0), 1);
        Due.is("new: sits(1)", x.sits(1), -3);
        Due.is("new: undo", x.undo(1), -3);
        Due.is("new: tray", x.perform(0), -6);
        Due.is("new: image", x.restore(1), -5);
    }

    private static void feed() {
        OppositeHouse x = new OppositeHouse();
        for (int i = 1; i <= 45; i++) {
            Due.is("feed", x.feed(0x20202020, 0x20202020, 0x20202020, 0x20202020, 0x20202020), 20 * i);
        }
        Due.is("feed beyond 900", x.feed(0, 0, 0, 0, 0), -5);
        Due.is("the tape stays", x.count(7), 900);
        // "hous" "e li" "nes " "1;\n " and a sign that is none, the highest byte of each int first.
        x = new OppositeHouse();
        x.feed(0x686f7573, 0x65206c69, 0x6e657320, 0x313b0a20, 0x80000000);
        Due.is("house of fed bytes", x.house(16), 1);
        x.feed(0x686f7573, 0x65206c69, 0x6e657320, 0x313b0a20, 0x80000000);
        Due.is("house with a byte of 128", x.house(17), -31);
        Due.is("its place", x.fault(1), 16);
        x.feed(0x686f7573, 0x65206c69, 0x6e657320, 0x313b0a20, 0x0);
        Due.is("house with a byte of 0", x.house(20), -31);
    }

    private static void house() {
        OppositeHouse x = new OppositeHouse();
        Due.is("house(0): nothing is told", x.house(0), -32);
        Due.is("its place", x.fault(1), 0);
        Due.is("house(-1)", x.house(-1), -3);
        Due.is("house(1)", x.house(1), -3);
        Due.feed(x, "house lines 1;person 4 ;".getBytes());
        Due.is("house(41)", x.house(41), -3);
        Due.is("the tape stays", x.count(7), 40);
        Due.is("fault stays that of the one that was read", x.fault(0), 2);
        Due.is("house(24)", x.house(24), 2);
        Due.is("the tape is empty", x.count(7), 0);
        Due.is("lines of text", x.count(8), 2);
        Due.is("people", x.count(1), 1);
        Due.is("tokens need no blanks", Due.tell(x, "house lines 2;person 1 2in 3to 4temper 5weight 6;day 7;"), 3);
        Due.is("first day", x.person(0, 3), 3);
        Due.is("weight", x.person(0, 6), 6);
        Due.is("day", x.count(4), 7);
        Due.is("lines of views", x.count(0), 2);
        Due.is("blanks of both kinds", Due.tell(x, " \n house\nlines 3 ;\n\nday 012 ; "), 2);
        Due.is("three digits with noughts ahead", x.count(4), 12);
        x = Due.told("house lines 1;person 3;person 6;day 5;");
        x.send(0);
        x.days(2);
        Due.is("calls that can be undone", x.count(6), 2);
        Due.tell(x, "house lines 1;person 3;person 6;person 1;");
        Due.is("nobody is away behind house", x.count(3), 0);
        Due.is("nothing can be undone behind house", x.count(6), 0);
        Due.is("day is 0 without one", x.count(4), 0);
    }

    private static void houseWithFault() {
        OppositeHouse x = Due.told("house lines 2;person 3 1;person 6 2;day 5;");
        x.send(0);
        Due.is("house with a fault", Due.tell(x, "house lines 1;person 1;person 2;person 33;"), -33);
        Due.is("its tape is gone", x.count(7), 0);
        Due.is("lines stay", x.count(0), 2);
        Due.is("people stay", x.count(1), 2);
        Due.is("away stay", x.count(3), 1);
        Due.is("day stays", x.count(4), 5);
        Due.is("what can be undone stays", x.count(6), 1);
        Due.is("lines of text stay", x.count(8), 4);
        Due.is("views stay", x.person(1, 0), 6);
    }

    private static void fault() {
        OppositeHouse x = new OppositeHouse();
        Due.tell(x, "house lines 1;person 1 temper 99;");
        Due.is("fault(0)", x.fault(0), 3);
        Due.is("fault(1)", x.fault(1), 30);
        Due.is("fault(2)", x.fault(2), -1);
        Due.is("fault(-1)", x.fault(-1), -1);
        x.house(7);
        Due.is("fault(0) behind a house that wasn't read", x.fault(0), 3);
        Due.tell(x, "house lines 1;");
        Due.is("fault(0) without one", x.fault(0), 0);
        Due.is("fault(1) without one", x.fault(1), -1);
    }

    private static void person() {
        OppositeHouse x = Due.told("house lines 3;person 1 2 3;person 4 5 6 in 7 to 8 temper 9 weight 10;");
        long[] want = {4, 5, 6, 7, 8, 9, 10, 0, 0};
        for (int what = 0; what < 9; what++) {
            Due.is("person(1, " + what + ")", x.person(1, what), want[what]);
        }
        Due.is("first day if always", x.person(0, 3), 0);
        Due.is("last day if always", x.person(0, 4), 999);
        Due.is("temper without", x.person(0, 5), 10);
        Due.is("weight without", x.person(0, 6), 1);
        Due.is("in town", x.person(0, 8), 1);
        x.days(7);
        Due.is("in town by its first day", x.person(1, 8), 1);
        x.send(1);
        Due.is("away", x.person(1, 7), 1);
        Due.is("away, not in town", x.person(1, 8), 0);
        Due.is("no such person", x.person(2, 0), -2);
        Due.is("person below 0", x.person(-1, 0), -2);
        Due.is("no such what", x.person(0, 9), -2);
        Due.is("what below 0", x.person(0, -1), -2);
        x = Due.told("house lines 2;person 8 9;");
        Due.is("a view that it hasn't", x.person(0, 2), 0);
        Due.is("its second", x.person(0, 1), 9);
    }

    private static void flags() {
        OppositeHouse x = Due.told("house lines 1;person 1 in 2 to 3 temper 4 weight 5 temper 0 in 6 to 6 weight 99;");
        Due.is("a later in strikes", x.person(0, 3), 6);
        Due.is("a later in strikes", x.person(0, 4), 6);
        Due.is("a later temper strikes", x.person(0, 5), 0);
        Due.is("a later weight strikes", x.person(0, 6), 99);
    }

    private static void town() {
        OppositeHouse x = Due.told("house lines 1;person 1;person 2 in 3 to 5;person 3 in 0 to 4;person 4 in 999 to 999;day 2;");
        Due.is("town(0)", x.town(0), 5);
        Due.is("town(1)", x.town(1), 7);
        Due.is("town(2)", x.town(2), 7);
        Due.is("town(3)", x.town(3), 3);
        Due.is("town(4)", x.town(4), 1);
        Due.is("town(997)", x.town(997), 9);
        Due.is("town(998)", x.town(998), 1);
        Due.is("town(999)", x.town(999), 1);
        Due.is("town(1000)", x.town(1000), -3);
        Due.is("town(-1)", x.town(-1), -3);
        x.send(0);
        Due.is("who is away now isn't later", x.town(1), 6);
        Due.is("count of those in town", x.count(2), 4);
    }

    private static void townBeyondTheLastDay() {
        OppositeHouse x = Due.told("house lines 1;person 1;person 2 in 0 to 999;day 999;");
        Due.is("day 999", x.count(2), 3);
        Due.is("day 1000", x.days(1), 1);
        Due.is("its last day", x.person(1, 4), 999);
        Due.is("the last day of one that always is", x.person(0, 4), 999);
        for (int i = 0; i < 50; i++) {
            x.days(99);
        }
        Due.is("much later", x.count(2), 1);
        Due.is("days go on", x.count(4), 5950);
    }

    private static void opposedWithoutLaw() {
        OppositeHouse x = Due.told("house lines 2;person 4 0;person 5 0;person 5 9;person 0 9 in 5 to 6;person 9 4;");
        Due.is("4 and 5", x.opposed(0, 1), 1);
        Due.is("5 and 4", x.opposed(1, 0), 1);
        Due.is("5 and 5", x.opposed(1, 2), 0);
        Due.is("0 and 9, one not in town", x.opposed(3, 4), 1);
        Due.is("one and itself", x.opposed(0, 0), 0);
        Due.is("no such one", x.opposed(0, 5), -2);
        Due.is("no such one", x.opposed(-1, 0), -2);
        Due.is("no such ones, both one", x.opposed(5, 5), -2);
        Due.is("opposites(0)", x.opposites(0), 6);
        Due.is("opposites(1)", x.opposites(1), 1);
        Due.is("opposites(4)", x.opposites(4), 8);
        Due.is("opposites(5)", x.opposites(5), -2);
        Due.is("opposites(-1)", x.opposites(-1), -2);
        Due.is("twos of opposites", x.count(5), 3);
        x.send(4);
        Due.is("opposites, one away", x.opposites(3), 16);
    }

    private static void opposedByLaw() {
        OppositeHouse x = Due.told("house lines 3;person 1 2 3;person 4 5 6;person 4 2 0;"
                + "opposes : ease < unease and faith + 3 = unfaith and war * 2 = unwar;");
        Due.is("the law holds one way", x.opposed(0, 1), 1);
        Due.is("the law holds the other way", x.opposed(1, 0), 1);
        Due.is("it holds no way", x.opposed(0, 2), 0);
        x = Due.told("house lines 1;person 0;person 0;person 0;opposes : who = 0 and other = 2;");
        Due.is("by numbers", x.opposites(0), 4);
        Due.is("by numbers, the other way", x.opposites(2), 1);
        Due.is("by numbers, none", x.opposites(1), 0);
        x = Due.told("house lines 1;person 0;person 0;opposes : 1 = 1;");
        Due.is("never one and itself", x.opposites(0), 2);
        Due.is("never one and itself", x.opposed(1, 1), 0);
        x = Due.told("house lines 1;person 3;person 3;opposes : faith = 0 and unwar = 0;");
        Due.is("views that it hasn't are 0", x.opposed(0, 1), 1);
    }

    private static void lawsOfDays() {
        OppositeHouse x = Due.told("house lines 1;person 0;person 0;opposes : day = 2;day 9;");
        Due.is("day modulo 7", x.opposed(0, 1), 1);
        x.days(1);
        Due.is("a day later", x.opposed(0, 1), 0);
        x.days(6);
        Due.is("a week later", x.opposed(0, 1), 1);
    }

    private static boolean holds(String truth) {
        return Due.told("house lines 3;person 1 2 3;person 4 5 6;opposes : " + truth + ";").opposed(0, 1) == 1;
    }

    private static void lawsOfSigns() {
        Due.isTrue("* ahead of +", holds("2 + 3 * 4 = 14"));
        Due.isTrue("- from the left", holds("9 - 3 - 2 = 4"));
        Due.isTrue("- and +", holds("9 - 3 + 2 = 8"));
        Due.isTrue("( )", holds("(2 + 3) * 4 = 20 and 9 - (3 - 2) = 8"));
        Due.isTrue("below 0", holds("1 - 5 < 0 and 0 > 3 - 4"));
        Due.isTrue("and ahead of or", holds("1 = 1 or 1 = 1 and 1 = 2"));
        Due.isTrue("and ahead of or, behind", holds("1 = 2 and 1 = 2 or 1 = 1"));
        Due.isTrue("[ ]", !holds("[1 = 1 or 1 = 1] and 1 = 2"));
        Due.isTrue("not of one unit", holds("not 1 = 2 and 1 = 1"));
        Due.isTrue("not of one unit alone", holds("not 1 = 1 or 1 = 1"));
        Due.isTrue("not of more", !holds("not [1 = 1 or 1 = 1]"));
        Due.isTrue("not not", holds("not not 1 = 1"));
        Due.isTrue("six within one another", holds("not [not [((1)) = 1]] or 1 = 2"));
        Due.isTrue("six, and six beside them", holds("((((((1)))))) = ((((((1))))))"));
        Due.isTrue("not = < >", !holds("1 = 2") && !holds("1 > 1") && !holds("1 < 1") && holds("1 < 2") && holds("2 > 1"));
        Due.isTrue("names of both", holds("ease * 100 + faith * 10 + war = 123 and unease * 100 + unfaith * 10 + unwar = 456"));
    }

    private static void lawsKeptInBounds() {
        Due.isTrue("at most 1000000", holds("999 * 999 * 9 - 999 * 999 = 999 + 999 + 1"));
        Due.isTrue("each step, not the whole", holds("999 * 999 + 999 * 999 - 999 * 999 = 999 + 999 + 1"));
        Due.isTrue("at least -1000000", holds("0 - 999 * 999 - 999 * 999 + 999 * 999 = 0 - 999 - 999 - 1"));
        Due.isTrue("a product below", holds("(0 - 999) * 999 * 999 + 999 * 999 = 0 - 999 - 999 - 1"));
        Due.isTrue("a product of bounds", holds("(999 * 999 * 9) * (999 * 999 * 9) = 999 * 999 * 2"));
        Due.isTrue("998001 is within", holds("999 * 999 + 999 + 999 < 999 * 999 * 2"));
    }

    private static void laterLawsStrike() {
        OppositeHouse x = Due.told("house lines 1;day 3;opposes : 1 = 2;person 0;day 4;person 0;ayes : 1 = 2;"
                + "sways : 0 - 1;opposes : 1 = 1;ayes : 1 = 1;sways : 1;");
        Due.is("opposes", x.opposed(0, 1), 1);
        Due.is("day", x.count(4), 4);
        Due.is("ayes", x.ayes(0), 3);
        x.talk(0, 1);
        Due.is("sways", x.person(0, 0), 1);
        Due.is("lines of text", x.count(8), 11);
    }
}
