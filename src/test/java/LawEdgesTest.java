/** The edges of the laws (Terms 2): what + - * are kept to, names, laws that aren't told, views kept from 0 to 9. */
final class LawEdgesTest {
    /** 1,000,000, as a sum. */
    private static final String MILLION = "(999 + 1) * (999 + 1)";

    private LawEdgesTest() {
    }

    public static void main(String[] args) {
        sumsAreKept();
        differencesAreKept();
        productsAreKept();
        eachIsKept();
        comparisons();
        numbersOfPeople();
        viewsOfBoth();
        dayModuloSeven();
        eitherWayRound();
        withoutOpposes();
        withoutAyes();
        billsOfAyes();
        withoutSways();
        swaysKeepViews();
        swaysByItsSign();
        linesOfSways();
        viewsAsTheyWereAhead();
        deepLaws();
        Due.end();
    }

    private static void holds(String truth) {
        OppositeHouse x = Due.told("house lines 1;person 1;person 1;opposes : " + truth + ";");
        Due.is(truth, x.opposed(0, 1), 1);
    }

    /** "each + - * is kept from -1,000,000 to 1,000,000": +. */
    private static void sumsAreKept() {
        holds(MILLION + " - 1 + 1 = 999 * 999 + 999 + 999 + 1");
        holds(MILLION + " - 1 + 1 > " + MILLION + " - 1");
        holds(MILLION + " + 1 = " + MILLION);
        holds(MILLION + " + " + MILLION + " = " + MILLION);
        holds("(0 - " + MILLION + ") + (0 - 1) = 0 - " + MILLION);
        holds("(0 - " + MILLION + ") + 1 > 0 - " + MILLION);
    }

    /** The same of -. */
    private static void differencesAreKept() {
        holds("0 - " + MILLION + " < 1 - " + MILLION);
        holds("0 - " + MILLION + " - 1 = 0 - " + MILLION);
        holds("0 - " + MILLION + " - " + MILLION + " = 0 - " + MILLION);
        holds(MILLION + " - (0 - 1) = " + MILLION);
        holds("999 * 999 + 999 + 999 - (0 - 1) = " + MILLION);
        holds("999 * 999 + 999 + 998 - (0 - 1) < " + MILLION);
    }

    /** The same of *; 1,000 times 1,000 is the bound, 1,000 times 1,001 is beyond, as is what an int can't hold. */
    private static void productsAreKept() {
        holds("999 * (999 + 2) < " + MILLION);
        holds("999 * (999 + 2) = " + MILLION + " - 1");
        holds("(999 + 1) * (999 + 2) = " + MILLION);
        holds("(0 - 999 - 1) * (999 + 1) = 0 - " + MILLION);
        holds("(0 - 999) * (999 + 2) > 0 - " + MILLION);
        holds("(0 - 999 - 1) * (999 + 2) = 0 - " + MILLION);
        holds("(0 - 999 - 1) * (0 - 999 - 2) = " + MILLION);
        holds(MILLION + " * " + MILLION + " = " + MILLION);
        holds("(" + MILLION + ") * (" + MILLION + ") = " + MILLION);
        holds("(0 - " + MILLION + ") * (" + MILLION + ") = 0 - " + MILLION);
        holds("(0 - " + MILLION + ") * (0 - " + MILLION + ") = " + MILLION);
        holds("(" + MILLION + ") * (999 * 4 + 300) = " + MILLION);
    }

    /** It is each of them that is kept, one behind the other, not the whole. */
    private static void eachIsKept() {
        holds(MILLION + " + 1 - 1 = 999 * 999 + 999 + 999");
        holds(MILLION + " + " + MILLION + " - " + MILLION + " = 0");
        holds(MILLION + " + (" + MILLION + " - " + MILLION + ") = " + MILLION);
        holds("0 - " + MILLION + " - 1 + 1 = 1 - " + MILLION);
        holds("(999 + 2) * (999 + 2) - 1 = 999 * 999 + 999 + 999");
        holds("999 * 999 * 999 * 0 = 0");
    }

    /** "one of = < >". */
    private static void comparisons() {
        int[] pairs = {4, 5, 5, 5, 6, 5};
        for (int i = 0; i < pairs.length; i += 2) {
            for (String sign : new String[] {"=", "<", ">"}) {
                int a = pairs[i];
                int b = pairs[i + 1];
                boolean due = sign.equals("=") ? a == b : sign.equals("<") ? a < b : a > b;
                OppositeHouse x = Due.told("house lines 1;person 1;person 1;opposes : " + a + sign + b + ";");
                Due.is(a + sign + b, x.opposed(0, 1), due ? 1 : 0);
                x = Due.told("house lines 1;person 1;person 1;opposes : not " + a + sign + b + ";");
                Due.is("not " + a + sign + b, x.opposed(0, 1), due ? 0 : 1);
            }
        }
    }

    /** "who: its number", "other: of the other one": 0 to 9. */
    private static void numbersOfPeople() {
        OppositeHouse x = Due.told("house lines 1;" + "person 0;".repeat(10) + "opposes : who = 0 and other = 9;ayes : who = 9;");
        Due.is("0 opposes 9", x.opposites(0), 512);
        Due.is("9 opposes 0", x.opposites(9), 1);
        Due.is("8 opposes none", x.opposites(8), 0);
        Due.is("one two", x.count(5), 1);
        Due.is("9 says aye", x.ayes(0), 512);
        x = Due.told("house lines 1;" + "person 0;".repeat(10) + "sways : other - 8;");
        x.talk(0, 9);
        Due.is("more by 9", x.person(0, 0), 1);
        x.talk(0, 8);
        Due.is("the same by 8", x.person(0, 0), 1);
        x.talk(0, 7);
        Due.is("less by 7", x.person(0, 0), 0);
    }

    /** "ease, faith, war: VIEWS of the one", "unease, unfaith, unwar, other: of the other one". */
    private static void viewsOfBoth() {
        OppositeHouse x = Due.told("house lines 3;person 1 2 3;person 4 5 6;"
                + "opposes : ease = 1 and faith = 2 and war = 3 and who = 0 and unease = 4 and unfaith = 5 and unwar = 6 and other = 1;");
        Due.is("each name", x.opposed(0, 1), 1);
        x = Due.told("house lines 3;person 0 9 0;person 9 0 9;"
                + "opposes : ease = 0 and faith = 9 and war = 0 and unease = 9 and unfaith = 0 and unwar = 9;");
        Due.is("0 and 9", x.opposed(1, 0), 1);
        x = Due.told("house lines 2;person 3 3;person 3 3;opposes : war = 0 and unwar = 0;ayes : war = 0;");
        Due.is("0 those it hasn't", x.opposed(0, 1), 1);
        Due.is("0 those it hasn't", x.ayes(0), 3);
    }

    /** "day: DAY modulo 7". */
    private static void dayModuloSeven() {
        int[] days = {0, 6, 7, 13, 14, 999};
        int[] due = {0, 6, 0, 6, 0, 5};
        for (int i = 0; i < days.length; i++) {
            OppositeHouse x = Due.told("house lines 1;person 0;person 0;opposes : day = " + due[i] + ";ayes : day = " + due[i]
                    + ";sways : day - " + due[i] + " + 1;day " + days[i] + ";");
            Due.is("opposes on day " + days[i], x.opposed(0, 1), 1);
            Due.is("ayes on day " + days[i], x.ayes(0), 3);
            x.talk(0, 1);
            Due.is("sways on day " + days[i], x.person(0, 0), 1);
            x.days(1);
            Due.is("opposes a day later", x.opposed(0, 1), 0);
            x.days(99);
            x.days(99);
            x.days(4);
            Due.is("203 days, 29 weeks, later", x.opposed(0, 1), 1);
        }
    }

    /** "if the law opposes holds of them either way round". */
    private static void eitherWayRound() {
        OppositeHouse x = Due.told("house lines 1;person 2;person 3;person 3;opposes : ease < unease;");
        Due.is("this way round", x.opposed(0, 1), 1);
        Due.is("the other way round", x.opposed(1, 0), 1);
        Due.is("no way round", x.opposed(1, 2), 0);
        Due.is("as bits", x.opposites(0), 6);
        Due.is("as bits", x.opposites(2), 1);
    }

    /** "(without one: if ease of both is 9 together)". */
    private static void withoutOpposes() {
        for (int a = 0; a <= 9; a++) {
            OppositeHouse x = Due.told("house lines 2;person " + a + " 5;person 0 4;person 1 4;person 2 4;person 3 4;person 4 4;"
                    + "person 5 4;person 6 4;person 7 4;person 8 4;");
            Due.is("whose opposites " + a + " is", x.opposites(0), a == 0 ? 0 : 1 << 10 - a);
        }
        OppositeHouse x = Due.told("house lines 1;person 0;person 9;person 8;");
        Due.is("0 and 9", x.opposed(0, 1), 1);
        Due.is("0 and 8", x.opposed(0, 2), 0);
        Due.is("9 and 8", x.opposed(1, 2), 0);
    }

    /** "(without one: if ease is above 4)". */
    private static void withoutAyes() {
        OppositeHouse x = Due.told("house lines 3;person 4 9 9;person 5 0 0;person 0 9 9;person 9 0 0;");
        for (int bill = 0; bill < 10; bill++) {
            Due.is("5 and 9, not 4 and 0", x.ayes(bill), 10);
        }
    }

    /** "a BILL (0 to 9)", "bill: its number". */
    private static void billsOfAyes() {
        OppositeHouse x = Due.told("house lines 1;" + "person 0;".repeat(10) + "ayes : bill = who;");
        for (int bill = 0; bill < 10; bill++) {
            Due.is("bill " + bill, x.ayes(bill), 1 << bill);
        }
        Due.is("bill 10", x.ayes(10), -3);
        Due.is("bill -1", x.ayes(-1), -3);
    }

    private static void views(String when, OppositeHouse x, int p, int ease, int faith, int war) {
        Due.all(when, new long[] {x.person(p, 0), x.person(p, 1), x.person(p, 2)}, ease, faith, war);
    }

    /** "(without one: nearer to the other one's)". */
    private static void withoutSways() {
        OppositeHouse x = Due.told("house lines 3;person 0 9 5;person 9 0 5;person 1 8 6;");
        x.talk(0, 1);
        views("1 more, 1 less, the same", x, 0, 1, 8, 5);
        views("the other one stays", x, 1, 9, 0, 5);
        x.talk(0, 2);
        views("the same, the same, 1 more", x, 0, 1, 8, 6);
        for (int i = 0; i < 9; i++) {
            x.talk(0, 1);
        }
        views("as the other one, and no further", x, 0, 9, 0, 5);
        x = Due.told("house lines 2;person 0 0;person 9 9;");
        x.talk(0, 1);
        views("a view that it hasn't stays 0", x, 0, 1, 1, 0);
    }

    /** "0 to 9 always". */
    private static void swaysKeepViews() {
        OppositeHouse x = Due.told("house lines 3;person 0 9 8;person 5 5 5;person 1 5 5;sways : line * 2 - 1;");
        x.talk(0, 1);
        views("0 stays, 9 stays, 8 grows", x, 0, 0, 9, 9);
        x.talk(0, 1);
        views("all stay", x, 0, 0, 9, 9);
        x.talk(2, 1);
        views("1 falls, 5 grow", x, 2, 0, 6, 6);
        x.talk(2, 1);
        views("0 stays", x, 2, 0, 7, 7);
    }

    /** "by the law sways it is 1 less (below 0), 1 more (above 0), the same (0)". */
    private static void swaysByItsSign() {
        String[] sums = {"0 - 1", "0", "1", "0 - 999 * 999 * 999", "999 * 999 * 999", "0 * 5", "3 - 2 - 1"};
        int[] due = {4, 5, 6, 4, 6, 5, 5};
        for (int i = 0; i < sums.length; i++) {
            OppositeHouse x = Due.told("house lines 1;person 5;person 0;sways : " + sums[i] + ";");
            x.talk(0, 1);
            views("by " + sums[i], x, 0, due[i], 0, 0);
        }
    }

    /** "line: 0 ease, 1 faith, 2 war"; "of each of the one's VIEWS": those it has. */
    private static void linesOfSways() {
        for (int line = 0; line < 3; line++) {
            OppositeHouse x = Due.told("house lines 3;person 5 5 5;person 0 0 0;sways : (line - " + line + ") * (line - "
                    + line + ");");
            x.talk(0, 1);
            views("all but line " + line, x, 0, line == 0 ? 5 : 6, line == 1 ? 5 : 6, line == 2 ? 5 : 6);
        }
        OppositeHouse x = Due.told("house lines 1;person 5;person 0;sways : 1;");
        x.talk(0, 1);
        views("one line", x, 0, 6, 0, 0);
        x = Due.told("house lines 2;person 5 5;person 0 0;sways : 1;");
        x.talk(0, 1);
        views("two lines", x, 0, 6, 6, 0);
        x = Due.told("house lines 1;person 0;person 0;sways : 0 - 1;");
        x.talk(0, 1);
        views("one line, less", x, 0, 0, 0, 0);
    }

    /** "all as they were ahead". */
    private static void viewsAsTheyWereAhead() {
        OppositeHouse x = Due.told("house lines 3;person 5 5 5;person 0 0 0;sways : ease - 5 + (1 - line) * (2 - line);");
        x.talk(0, 1);
        views("ease grows, and the others don't see it", x, 0, 6, 5, 5);
        x.talk(0, 1);
        views("but a talk behind it does", x, 0, 7, 6, 6);
    }

    /** The deepest laws that a text can tell hold what stands open at once. */
    private static void deepLaws() {
        String sum = "1 + 1 * (1 + 1 * (1 + 1 * (1 + 1 * (1 + 1 * (1 + 1 * 2)))))";
        holds("1 = 2 or 1 = 1 and " + sum + " = " + sum);
        holds(sum + " = 8");
        String truth = "1 = 2 or 1 = 1 and [1 = 2 or 1 = 1 and [1 = 2 or 1 = 1 and [1 = 2 or 1 = 1 and (1 + 1 * (1 + 1 * 2)) = 4]]]";
        holds(truth);
        String open = "1 = 2 or 1 = 1 and [";
        holds(open.repeat(6) + "1 = 2 or 1 = 1 and 1 + 1 * 1 = 1 + 1 * 1" + "]".repeat(6));
        holds("not [" + open.repeat(4) + "1 = 2 or 1 = 1 and 1 + 1 * 1 < 1 + 1 * 1" + "]".repeat(5));
    }
}
