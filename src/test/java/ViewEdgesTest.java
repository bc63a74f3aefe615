/** The edges of hidden views and of chances (Terms 3, promises 34 to 38). */
final class ViewEdgesTest {
    private ViewEdgesTest() {
    }

    public static void main(String[] args) {
        noSuchPerson();
        noSuchSet();
        allViews();
        noViews();
        placesOfHiddenAt();
        orderOfViews();
        itselfAside();
        oneNotInTown();
        justThoseInTown();
        probeOfTen();
        probeMostEven();
        probeNone();
        chanceOfNoneAndAll();
        chanceOfTempers();
        chanceInLowestTerms();
        whatOfChance();
        reserveIfGreater();
        reserveOfThoseInTown();
        reserveTheFirst();
        Due.end();
    }

    /** Promises 34 to 36: "-2" ahead of "-3". */
    private static void noSuchPerson() {
        OppositeHouse x = Due.told("house lines 1;" + "person 0;".repeat(10));
        for (int p : new int[] {-1, 10, 31, 32, Integer.MIN_VALUE, Integer.MAX_VALUE}) {
            Due.is("hidden(" + p + ")", x.hidden(p, 0), -2);
            Due.is("hiddenAt(" + p + ")", x.hiddenAt(p, 0, 0), -2);
            Due.is("probe(" + p + ")", x.probe(p, 0), -2);
            Due.is("ahead of the set", x.hidden(p, -1), -2);
            Due.is("ahead of the set and k", x.hiddenAt(p, 2048, -1), -2);
            Due.is("ahead of the set", x.probe(p, 1024), -2);
        }
        x = new OppositeHouse();
        Due.is("without people", x.hidden(0, 0), -2);
        Due.is("without people", x.hiddenAt(0, 0, 0), -2);
        Due.is("without people", x.probe(0, 0), -2);
    }

    private static void refused(OppositeHouse x, int p, int set) {
        long[] got = {x.hidden(p, set), x.hiddenAt(p, set, 0), x.hiddenAt(p, set, 5000), x.probe(p, set)};
        Due.all("of " + p + " the set " + set, got, -3, -3, -3, -3);
    }

    /** "-3: the set has the one, others than those IN TOWN"; "-3: also k is below 0". */
    private static void noSuchSet() {
        OppositeHouse x = Due.told("house lines 1;" + "person 0;".repeat(8) + "person 0 in 5 to 6;person 0;");
        x.send(7);
        for (int p = 0; p < 10; p++) {
            refused(x, p, 1 << p);
            refused(x, p, 1023);
            refused(x, p, 128);
            refused(x, p, 256);
            refused(x, p, 1024);
            refused(x, p, -1);
            refused(x, p, Integer.MIN_VALUE);
            Due.is("all others in town", x.hidden(p, 639 & ~(1 << p)), 1);
            Due.is("k -1", x.hiddenAt(p, 0, -1), -3);
            Due.is("the least k", x.hiddenAt(p, 0, Integer.MIN_VALUE), -3);
        }
    }

    /** "all that it can have": 10, 100, 1000. */
    private static void allViews() {
        String[] texts = {"house lines 1;person 5;", "house lines 2;person 5 5;", "house lines 3;person 5 5 5;"};
        int[] many = {10, 100, 1000};
        int[] last = {900, 990, 999};
        for (int i = 0; i < 3; i++) {
            OppositeHouse x = Due.told(texts[i]);
            Due.is("how many", x.hidden(0, 0), many[i]);
            Due.is("the first", x.hiddenAt(0, 0, 0), 0);
            Due.is("the second", x.hiddenAt(0, 0, 1), i == 0 ? 100 : i == 1 ? 10 : 1);
            Due.is("the last but one", x.hiddenAt(0, 0, many[i] - 2), last[i] - (i == 0 ? 100 : i == 1 ? 10 : 1));
            Due.is("the last", x.hiddenAt(0, 0, many[i] - 1), last[i]);
            Due.is("no more", x.hiddenAt(0, 0, many[i]), -1);
        }
    }

    /** None: 0; "NONE: not so many". */
    private static void noViews() {
        OppositeHouse x = Due.told("house lines 3;person 1 1 1;person 1 1 1;person 1 1 1 in 2 to 3;opposes : 1 = 1;");
        Due.is("1 always is", x.hidden(0, 0), 0);
        Due.is("none", x.hiddenAt(0, 0, 0), -1);
        Due.is("none to try", x.probe(0, 0), -1);
        Due.is("all with 1", x.hidden(0, 2), 1000);
        Due.is("2 to try", x.probe(0, 2), 2);
        Due.is("k ahead of none", x.hiddenAt(0, 0, -1), -3);
    }

    /** "The k-th of them". */
    private static void placesOfHiddenAt() {
        OppositeHouse x = Due.told("house lines 1;person 5;person 3;opposes : ease < unease and who = 0;");
        Due.is("0 1 2", x.hidden(0, 2), 3);
        long[] due = {0, 100, 200, -1};
        for (int k = 0; k < 4; k++) {
            Due.is("k " + k, x.hiddenAt(0, 2, k), due[k]);
        }
        Due.is("the greatest k", x.hiddenAt(0, 2, Integer.MAX_VALUE), -1);
        Due.is("the others: 3 to 9", x.hidden(0, 0), 7);
        Due.is("3 first", x.hiddenAt(0, 0, 0), 300);
        Due.is("9 last", x.hiddenAt(0, 0, 6), 900);
        Due.is("no more", x.hiddenAt(0, 0, 7), -1);
    }

    /** "by ease, faith, war: 100 times ease and 10 times faith and war". */
    private static void orderOfViews() {
        OppositeHouse x = Due.told("house lines 3;person 5 5 5;person 0 0 0;opposes : ease + faith + war = 1 and who = 0;");
        Due.is("three", x.hidden(0, 2), 3);
        Due.is("0 0 1", x.hiddenAt(0, 2, 0), 1);
        Due.is("0 1 0", x.hiddenAt(0, 2, 1), 10);
        Due.is("1 0 0", x.hiddenAt(0, 2, 2), 100);
    }

    /** One is no opposite of itself, whatever its views are. */
    private static void itselfAside() {
        OppositeHouse x = Due.told("house lines 1;person 0 in 3 to 3;person 4;");
        Due.is("all", x.hidden(1, 0), 10);
        x = Due.told("house lines 1;" + "person 4;".repeat(10));
        Due.is("all but 5", x.hidden(9, 0), 9);
        Due.is("5", x.hiddenAt(9, 511, 0), 500);
    }

    /** "of those IN TOWN, just a told set are its OPPOSITES": the one may be away. */
    private static void oneNotInTown() {
        OppositeHouse x = Due.told("house lines 1;person 0 in 3 to 3;person 4;person 0;");
        Due.is("opposed to 1", x.hidden(0, 2), 1);
        Due.is("5", x.hiddenAt(0, 2, 0), 500);
        Due.is("the set has the one", x.hidden(0, 1), -3);
        x.send(2);
        Due.is("2 away: opposed to none", x.hidden(2, 0), 9);
        Due.is("0 opposed to none: 2 doesn't count", x.hidden(0, 0), 9);
    }

    /** Those not in town may be its opposites or not. */
    private static void justThoseInTown() {
        OppositeHouse x = Due.told("house lines 1;person 0;" + "person 0;".repeat(8) + "person 4;");
        Due.is("of 1 to 8: 9", x.hidden(0, 510), 1);
        Due.is("of 1 to 7, not 8", x.hidden(0, 254), 0);
        Due.is("of 9: 5", x.hidden(0, 512), 1);
        Due.is("of nobody: not 9, not 5", x.hidden(0, 0), 8);
        x.send(9);
        Due.is("of nobody: not 9", x.hidden(0, 0), 9);
        x.send(8);
        Due.is("of 1 to 7: 9", x.hidden(0, 254), 1);
    }

    /** Promise 36: "of PEOPLE not IN TOWN, not the one". */
    private static void probeOfTen() {
        OppositeHouse x = Due.told("house lines 1;" + "person 0;".repeat(9) + "person 0 in 3 to 3;opposes : who = 0 and ease < 5 and other > 8;");
        Due.is("9 alone isn't in town", x.probe(0, 0), 9);
        x.send(4);
        Due.is("9 is more even than 4", x.probe(0, 0), 9);
        Due.is("of 9 itself, whom 0 always opposes, 4 alone", x.probe(9, 1), 4);
        x.days(3);
        Due.is("4, as 9 is in town", x.probe(0, 512), 4);
    }

    /** "most even among these (the lesser number is greatest), the first". */
    private static void probeMostEven() {
        // 0 has ten views; of q as many are opposites as its ease tells.
        String law = "opposes : who = 0 and ease < unease;";
        int[][] eases = {{4, 5}, {5, 4}, {4, 6}, {6, 4}, {0, 1}, {1, 0}, {9, 2}, {2, 9}, {0, 0}, {7, 3}, {1, 9}, {5, 5}};
        int[] due = {2, 1, 1, 1, 2, 1, 2, 1, 1, 1, 1, 1};
        for (int i = 0; i < due.length; i++) {
            OppositeHouse x = Due.told("house lines 1;person 0;person " + eases[i][0] + " in 5 to 5;person " + eases[i][1]
                    + " in 5 to 5;" + law);
            Due.is("of " + eases[i][0] + " and " + eases[i][1], x.probe(0, 0), due[i]);
        }
        // Two views are left, 3 and 4: of 1 none is an opposite, of 2 one is; then both, and one.
        OppositeHouse x = Due.told("house lines 1;person 0;person 3 in 5 to 5;person 4 in 5 to 5;person 5;person 3;" + law);
        Due.is("2", x.probe(0, 8), 2);
        x = Due.told("house lines 1;person 0;person 5 in 5 to 5;person 4 in 5 to 5;person 5;person 3;" + law);
        Due.is("2", x.probe(0, 8), 2);
        x = Due.told("house lines 1;person 0;person 4 in 5 to 5;person 3 in 5 to 5;person 5;person 3;" + law);
        Due.is("1", x.probe(0, 8), 1);
    }

    /** "NONE: there are no such ones, no such VIEWS". */
    private static void probeNone() {
        OppositeHouse x = Due.told("house lines 1;person 4;person 4;person 4;");
        Due.is("all are in town", x.probe(0, 0), -1);
        x.send(0);
        Due.is("all but the one", x.probe(0, 0), -1);
        Due.is("of another one: 0", x.probe(1, 0), 0);
        Due.is("no such views: 1 without 2", x.probe(0, 2), -1);
        Due.is("one alone", Due.told("house lines 1;person 4;").probe(0, 0), -1);
        Due.is("the set ahead of none", x.probe(0, 1), -3);
    }

    private static void chance(OppositeHouse x, int set, long above, long below) {
        Due.is("chance(" + set + ", 0)", x.chance(set, 0), above);
        Due.is("chance(" + set + ", 1)", x.chance(set, 1), below);
    }

    /** Promise 37: nobody, one, all ten. */
    private static void chanceOfNoneAndAll() {
        chance(new OppositeHouse(), 0, 1, 1);
        OppositeHouse x = Due.told("house lines 1;" + "person 0 temper 1;".repeat(10));
        chance(x, 0, 1, 1);
        chance(x, 1, 9, 10);
        chance(x, 512, 9, 10);
        chance(x, 3, 81, 100);
        chance(x, 1023, 3486784401L, 10000000000L);
        x = Due.told("house lines 1;" + "person 0 temper 9;".repeat(10) + "opposes : 1 = 1;");
        // An even number comes: (1 + (1 - 2 * 0.9) to the tenth) / 2, which is (10^10 + 8^10) / (2 * 10^10).
        chance(x, 1023, 5536870912L / 512L, 10000000000L / 512L);
        chance(x, 3, 41, 50);
    }

    /** "each of it comes as likely as its temper tells": 0 never, 10 always. */
    private static void chanceOfTempers() {
        for (int t = 0; t <= 10; t++) {
            OppositeHouse x = Due.told("house lines 1;" + "person 0 temper 10;".repeat(8) + "person 4 temper 10;person 5 temper " + t + ";");
            long common = t == 0 || t == 10 ? 10 : t % 5 == 0 ? 5 : t % 2 == 0 ? 2 : 1;
            chance(x, 512, (10 - t) / common, 10 / common);
            chance(x, 768, t / common, 10 / common);
        }
        OppositeHouse x = Due.told("house lines 1;" + "person 0 temper 0;".repeat(10));
        chance(x, 1023, 1, 1);
        x = Due.told("house lines 1;" + "person 0;".repeat(10));
        chance(x, 1023, 0, 1);
        x.send(0);
        chance(x, 1, 0, 1);
    }

    /** "in lowest terms". */
    private static void chanceInLowestTerms() {
        OppositeHouse x = Due.told("house lines 1;person 4 temper 5;person 5 temper 5;person 0 temper 5;person 9 temper 2;person 7 temper 6;");
        chance(x, 3, 1, 2);
        chance(x, 4, 1, 2);
        chance(x, 12, 1, 2);
        chance(x, 24, 8, 25);
        chance(x, 16, 2, 5);
        chance(x, 8, 4, 5);
        // Both or none of 0 1, and both or none of 2 3.
        chance(x, 15, 1, 4);
    }

    /** "-2: what; -3", the first of them ahead. */
    private static void whatOfChance() {
        OppositeHouse x = Due.told("house lines 1;person 9;");
        for (int what : new int[] {-1, 2, Integer.MIN_VALUE, Integer.MAX_VALUE}) {
            Due.is("what " + what, x.chance(1, what), -2);
            Due.is("what " + what + " ahead of the set", x.chance(2, what), -2);
        }
        Due.is("the set", x.chance(2, 0), -3);
        Due.is("the set", x.chance(-1, 1), -3);
    }

    /** Promise 38: "if greater than without". */
    private static void reserveIfGreater() {
        OppositeHouse x = Due.told("house lines 1;person 0 temper 1;" + "person 4 in 5 to 6;".repeat(8) + "person 9 temper 6;");
        // 9 alone: 4 of 10; with 0: 6 and 36 of 100.
        Due.is("a little greater", x.reserve(512), 0);
        x = Due.told("house lines 1;person 0 temper 1;" + "person 4 in 5 to 6;".repeat(8) + "person 9 temper 5;");
        Due.is("the same", x.reserve(512), -1);
        x = Due.told("house lines 1;person 0 temper 1;" + "person 4 in 5 to 6;".repeat(8) + "person 9 temper 4;");
        Due.is("less", x.reserve(512), -1);
        x = Due.told("house lines 1;person 0 temper 0;" + "person 4 in 5 to 6;".repeat(8) + "person 9 temper 10;");
        Due.is("one who never comes: the same", x.reserve(512), -1);
        x = Due.told("house lines 1;person 9 temper 6;" + "person 4 in 5 to 6;".repeat(8) + "person 0 temper 1;");
        Due.is("9", x.reserve(1), 9);
    }

    /** "The PERSON IN TOWN, not of a set .. NONE: none". */
    private static void reserveOfThoseInTown() {
        OppositeHouse x = Due.told("house lines 1;person 0 in 5 to 6;" + "person 4;".repeat(8) + "person 9;");
        Due.is("0 isn't in town", x.reserve(512), -1);
        Due.is("9, for one who isn't in town", x.reserve(1), 9);
        x.send(9);
        Due.is("9 is away", x.reserve(1), -1);
        x.days(5);
        Due.is("0, for one who is away", x.reserve(512), 0);
        Due.is("0 is of the set", x.reserve(513), -1);
        Due.is("of nobody it is sure", x.reserve(0), -1);
        Due.is("without people", new OppositeHouse().reserve(0), -1);
        Due.is("all are of the set", x.reserve(1023), -1);
    }

    /** "CHANCE is greatest .. the first". */
    private static void reserveTheFirst() {
        OppositeHouse x = Due.told("house lines 1;person 9;person 0 temper 5;person 0 temper 8;person 0 temper 8;person 0 temper 7;");
        Due.is("2, ahead of 3", x.reserve(1), 2);
        x.send(2);
        Due.is("3", x.reserve(1), 3);
        x.send(3);
        Due.is("4", x.reserve(1), 4);
        x.send(4);
        Due.is("1", x.reserve(1), 1);
        x.send(1);
        Due.is("none", x.reserve(1), -1);
    }
}
