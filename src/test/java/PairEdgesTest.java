/** The edges of pairs and covers (Terms 3, promises 17 to 26): nobody, one, all ten, of like ones the first. */
final class PairEdgesTest {
    /** Ten people of the greatest weight; 0 and 9, 1 and 8, 2 and 7, 3 and 6, 4 and 5 are opposites. */
    private static final String MIRROR = "house lines 1;" + "person 0 weight 99;".repeat(10) + "opposes : who + other = 9;";
    /** Ten people, all of them opposites. */
    private static final String ALL = "house lines 1;" + "person 0;".repeat(10) + "opposes : 1 = 1;";
    /** Ten people, none of them opposites. */
    private static final String NO_ONE = "house lines 1;" + "person 0;".repeat(10);
    /** Ten people; 9 is the opposite of each other one. */
    private static final String STAR = "house lines 1;" + "person 0;".repeat(9) + "person 9;";
    private static final int[] NO_SETS = {1024, 1025, 2047, 1 << 30, -1, -1024, Integer.MIN_VALUE, Integer.MAX_VALUE};

    private PairEdgesTest() {
    }

    public static void main(String[] args) {
        othersThanPeople();
        whoSits();
        oppositesAsBits();
        pairsOfNoneAndAll();
        pairsLeftOver();
        pairsOfLikeTwos();
        pairsOfLikeWeight();
        whatOfPairs();
        waysOfNoneAndAll();
        barsOfNoneAndAll();
        barsAreTheFewest();
        piecesOfNoneAndAll();
        bestDayOfAll();
        firstDayOfTwo();
        daysOfTheWeek();
        quorumOfNoneAndAll();
        coverOfNoneAndAll();
        coverByThoseInTown();
        laundressOfNoneAndAll();
        laundressByThoseInTown();
        Due.end();
    }

    /** "Sets are told as bits; others than PEOPLE in one: -3." */
    private static void othersThanPeople() {
        OppositeHouse x = Due.told(MIRROR);
        for (int set : NO_SETS) {
            refused(x, set);
        }
        x = Due.told("house lines 1;" + "person 0;".repeat(9));
        refused(x, 512);
        Due.is("the set of all nine", x.sits(511), 0);
        refused(new OppositeHouse(), 1);
        Due.is("of nobody", new OppositeHouse().sits(0), 1);
    }

    private static void refused(OppositeHouse x, int set) {
        long[] got = {x.sits(set), x.pairs(set, 0), x.pairs(set, 1), x.ways(set), x.bar(set, 0), x.bar(set, 1),
            x.pieces(set), x.cover(set, 0), x.cover(set, 1), x.laundress(set), x.chance(set, 0), x.chance(set, 1), x.reserve(set)};
        Due.all("set " + set, got, -3, -3, -3, -3, -3, -3, -3, -3, -3, -3, -3, -3, -3);
    }

    /** "A set SITS, if it can be parted into twos of OPPOSITES (so does the empty one)." */
    private static void whoSits() {
        OppositeHouse x = Due.told(MIRROR);
        Due.is("nobody", x.sits(0), 1);
        for (int p = 0; p < 10; p++) {
            Due.is("one", x.sits(1 << p), 0);
            Due.is("it and its opposite", x.sits(1 << p | 1 << 9 - p), 1);
            Due.is("all but it", x.sits(1023 & ~(1 << p)), 0);
            Due.is("it and another one", x.sits(1 << p | 1 << (p + 1) % 10), p == 4 || p == 9 ? 1 : 0);
        }
        Due.is("all", x.sits(1023), 1);
        x.send(0);
        Due.is("in town or not", x.sits(1023), 1);
    }

    /** Promise 8, with ten: "among all PEOPLE (itself aside)"; count(5): "twos of PEOPLE who are OPPOSITES". */
    private static void oppositesAsBits() {
        OppositeHouse x = Due.told(ALL);
        for (int p = 0; p < 10; p++) {
            Due.is("all but itself", x.opposites(p), 1023 & ~(1 << p));
            Due.is("itself", x.opposed(p, p), 0);
        }
        Due.is("-1", x.opposites(-1), -2);
        Due.is("10", x.opposites(10), -2);
        Due.is("45 twos", x.count(5), 45);
        Due.is("5 twos", Due.told(MIRROR).count(5), 5);
        Due.is("no twos", Due.told(NO_ONE).count(5), 0);
        Due.is("9 twos", Due.told(STAR).count(5), 9);
    }

    private static long[] partners(OppositeHouse x, int set) {
        long[] partners = new long[x.count(1)];
        for (int p = 0; p < partners.length; p++) {
            partners[p] = x.pairs(set, 10 + p);
        }
        return partners;
    }

    /** Promise 18: "how many twos", "their weight", "the partner of p". */
    private static void pairsOfNoneAndAll() {
        OppositeHouse x = Due.told(MIRROR);
        Due.is("of nobody", x.pairs(0, 0), 0);
        Due.is("of nobody", x.pairs(0, 1), 0);
        Due.all("of nobody", partners(x, 0), -1, -1, -1, -1, -1, -1, -1, -1, -1, -1);
        Due.is("of all", x.pairs(1023, 0), 5);
        Due.is("ten times 99", x.pairs(1023, 1), 990);
        Due.all("of all", partners(x, 1023), 9, 8, 7, 6, 5, 4, 3, 2, 1, 0);
        x = Due.told(NO_ONE);
        Due.is("of all, who aren't opposites", x.pairs(1023, 0), 0);
        Due.is("of all, who aren't opposites", x.pairs(1023, 1), 0);
    }

    /** "NONE: it is LEFT OVER, not of the set". */
    private static void pairsLeftOver() {
        OppositeHouse x = Due.told(MIRROR);
        Due.all("0 isn't of the set, 9 is left over", partners(x, 1022), -1, 8, 7, 6, 5, 4, 3, 2, 1, -1);
        Due.is("four twos", x.pairs(1022, 0), 4);
        Due.is("eight times 99", x.pairs(1022, 1), 792);
        x = Due.told(STAR);
        Due.all("all but 0 and 9", partners(x, 1023), 9, -1, -1, -1, -1, -1, -1, -1, -1, 0);
        Due.all("without 9", partners(x, 511), -1, -1, -1, -1, -1, -1, -1, -1, -1, -1);
    }

    /** "by which most are in one, of like ones by which these have the greatest weight together". */
    private static void pairsOfLikeTwos() {
        OppositeHouse x = Due.told("house lines 1;person 0;person 0 weight 99;person 0 weight 99;person 0;opposes : other = who + 1;");
        Due.is("two twos of 200, though one of 198 is heavier by itself", x.pairs(15, 0), 2);
        Due.is("their weight", x.pairs(15, 1), 200);
        Due.is("of 0 1 2 the heavier two", x.pairs(7, 1), 198);
        Due.all("1 and 2", partners(x, 7), -1, 2, 1, -1);
        x = Due.told("house lines 1;" + "person 0 weight 2;".repeat(4) + "person 0;" + "person 0 weight 2;".repeat(5) + "opposes : 1 = 1;");
        Due.all("of nine the lightest is left over", partners(x, 511), 1, 0, 3, 2, -1, 6, 5, 8, 7, -1);
        Due.is("eight of weight 2", x.pairs(511, 1), 16);
        x = Due.told("house lines 1;" + "person 0;".repeat(8) + "person 0 weight 2;person 9;");
        Due.all("9 with 8, the heaviest", partners(x, 1023), -1, -1, -1, -1, -1, -1, -1, -1, 9, 8);
        Due.is("weight 1 and 2", x.pairs(1023, 1), 3);
    }

    /** "of like ones the first by partners of its PEOPLE, by numbers (partners by numbers, none behind all)". */
    private static void pairsOfLikeWeight() {
        OppositeHouse x = Due.told(ALL);
        Due.all("of ten", partners(x, 1023), 1, 0, 3, 2, 5, 4, 7, 6, 9, 8);
        Due.all("of nine the last is left over", partners(x, 511), 1, 0, 3, 2, 5, 4, 7, 6, -1, -1);
        Due.all("of 0 2 4 6 8", partners(x, 341), 2, -1, 0, -1, 6, -1, 4, -1, -1, -1);
        Due.all("of 1 and 9", partners(x, 514), -1, 9, -1, -1, -1, -1, -1, -1, -1, 1);
        x = Due.told("house lines 1;person 0 weight 99;person 0;person 0;person 0;opposes : 1 = 1;");
        Due.all("a heavy one is in one two alone", partners(x, 15), 1, 0, 3, 2);
        // A ring of five: each can be left over; 0 with 1 comes ahead, and 4 is left over.
        x = Due.told("house lines 1;" + "person 0;".repeat(5) + "opposes : other = who + 1 or who = 0 and other = 4;");
        Due.all("a ring of five", partners(x, 31), 1, 0, 3, 2, -1);
        Due.all("without 1: 0 with 4 and 2 with 3", partners(x, 29), 4, -1, 3, 2, 0);
    }

    /** "-2: what (10 and a PERSON); -3", the first of them ahead. */
    private static void whatOfPairs() {
        OppositeHouse x = Due.told(MIRROR);
        for (int what : new int[] {-1, 2, 3, 9, 20, 21, 100, Integer.MIN_VALUE, Integer.MAX_VALUE}) {
            Due.is("what " + what, x.pairs(1023, what), -2);
            Due.is("what " + what + " ahead of the set", x.pairs(1024, what), -2);
        }
        Due.is("what 10", x.pairs(1023, 10), 9);
        Due.is("what 19", x.pairs(1023, 19), 0);
        Due.is("what 19, the set", x.pairs(1024, 19), -3);
        x = Due.told("house lines 1;" + "person 0;".repeat(3));
        Due.is("10 and the last one", x.pairs(7, 12), -1);
        Due.is("10 and no person", x.pairs(7, 13), -2);
        Due.is("without people", new OppositeHouse().pairs(0, 10), -2);
    }

    /** Promise 19. */
    private static void waysOfNoneAndAll() {
        OppositeHouse x = Due.told(ALL);
        long[] due = {1, 0, 1, 0, 3, 0, 15, 0, 105, 0, 945};
        for (int n = 0; n <= 10; n++) {
            Due.is("of " + n, x.ways((1 << n) - 1), due[n]);
            Due.is("of the last " + n, x.ways(1023 & -(1 << 10 - n)), due[n]);
        }
        Due.is("of those who aren't opposites", Due.told(NO_ONE).ways(3), 0);
        Due.is("of nobody", Due.told(NO_ONE).ways(0), 1);
        Due.is("one way", Due.told(MIRROR).ways(1023), 1);
    }

    /** "A BAR of a set": how many, which; promise 20. */
    private static void barsOfNoneAndAll() {
        for (String text : new String[] {MIRROR, ALL, NO_ONE}) {
            OppositeHouse x = Due.told(text);
            for (int set : new int[] {0, 1, 512, 3, 513, 511, 1022, 1023}) {
                Due.is("nobody bars " + set, x.bar(set, 0), 0);
                Due.is("nobody bars " + set, x.bar(set, 1), 0);
            }
        }
        OppositeHouse x = Due.told(STAR);
        Due.is("9 bars all", x.bar(1023, 1), 512);
        Due.is("one", x.bar(1023, 0), 1);
        Due.is("9 and two: one odd piece, one left over", x.bar(515, 1), 0);
        Due.is("9 and three: 9", x.bar(519, 1), 512);
        for (int what : new int[] {-1, 2, Integer.MAX_VALUE, Integer.MIN_VALUE}) {
            Due.is("what " + what, x.bar(1023, what), -2);
            Due.is("what " + what + " ahead of the set", x.bar(1024, what), -2);
        }
    }

    /** "the fewest, the least set as bits". */
    private static void barsAreTheFewest() {
        // 6 to 9 are the opposites of 0 to 5: two are left over, and all four must go to leave six alone.
        OppositeHouse x = Due.told("house lines 1;" + "person 0;".repeat(6) + "person 9;".repeat(4));
        Due.is("6 7 8 9", x.bar(1023, 1), 960);
        Due.is("four", x.bar(1023, 0), 4);
        Due.is("twos", x.pairs(1023, 0), 4);
        // 4 is the opposite of 0 1 2 3, 5 the one of 6 7 8 9: each of 4 and 5 must go.
        x = Due.told("house lines 1;" + "person 0;".repeat(10) + "opposes : who = 4 and other < 4 or who = 5 and other > 5;");
        Due.is("4 and 5", x.bar(1023, 1), 48);
        // A way 0 - 1 - 2 - 3 - 4: nobody goes, as one odd piece is one more than none.
        x = Due.told("house lines 1;" + "person 0;".repeat(5) + "opposes : other = who + 1;");
        Due.is("nobody", x.bar(31, 1), 0);
        // 2 is the opposite of 0 1 3, 3 the one of 2 4 5: without 2 there are three odd pieces, 0 1 and 3 4 5.
        x = Due.told("house lines 1;" + "person 0;".repeat(6) + "opposes : who = 2 and other < 4 or who = 3 and other > 3;");
        Due.is("twos", x.pairs(63, 0), 2);
        Due.is("2, and not 3 as well", x.bar(63, 1), 4);
    }

    /** Promise 21. */
    private static void piecesOfNoneAndAll() {
        OppositeHouse x = Due.told(NO_ONE);
        Due.is("nobody", x.pieces(0), 0);
        for (int n = 1; n <= 10; n++) {
            Due.is("each by itself", x.pieces((1 << n) - 1), n);
        }
        Due.is("all together", Due.told(ALL).pieces(1023), 1);
        Due.is("five twos", Due.told(MIRROR).pieces(1023), 5);
        Due.is("the star", Due.told(STAR).pieces(1023), 1);
        Due.is("the star without 9", Due.told(STAR).pieces(511), 9);
        // A way through all ten, from its middle to its ends: 0 2 4 6 8 9 7 5 3 1.
        x = Due.told("house lines 1;" + "person 0;".repeat(10) + "opposes : other = who + 2 or who = 8 and other = 9;");
        Due.is("a way", x.pieces(1023), 1);
        Due.is("a way without 8", x.pieces(767), 2);
        Due.is("a way without 4 and 5", x.pieces(975), 3);
    }

    /** Promise 22: "(in 0 to 99) on which PAIRS of those IN TOWN have most twos, the first". */
    private static void bestDayOfAll() {
        OppositeHouse x = Due.told("house lines 1;" + "person 0;".repeat(5) + "person 0 in 50 to 70;person 0 in 40 to 70;"
                + "person 0 in 30 to 60;person 0 in 20 to 70;person 0 in 10 to 70;opposes : who + other = 9;");
        Due.is("five twos on day 50", x.bestDay(), 50);
        x.send(4);
        Due.is("four on day 40", x.bestDay(), 40);
        x.call(4);
        x.days(50);
        Due.is("today", x.bestDay(), 0);
        x.days(10);
        Due.is("the last of them", x.bestDay(), 0);
        x.days(1);
        Due.is("four, today", x.bestDay(), 0);
        Due.is("none on any day: today", Due.told(NO_ONE).bestDay(), 0);
        Due.is("without people: today", new OppositeHouse().bestDay(), 0);
        x = Due.told("house lines 1;person 4;person 5 in 199 to 199;person 5 in 200 to 200;day 100;");
        Due.is("in 99", x.bestDay(), 99);
        x.send(1);
        Due.is("in 100: none, today", x.bestDay(), 0);
    }

    /** Promise 23: "on which those IN TOWN SIT, two at least. NONE: none." */
    private static void firstDayOfTwo() {
        Due.is("nobody sits, but two at least", Due.told("house lines 1;").firstDay(), -1);
        OppositeHouse x = Due.told("house lines 1;person 4 in 10 to 20;person 5 in 15 to 25;");
        Due.is("nobody till day 10, one till day 15", x.firstDay(), 15);
        x.days(15);
        Due.is("today", x.firstDay(), 0);
        x.days(5);
        Due.is("today", x.firstDay(), 0);
        x.days(1);
        Due.is("none", x.firstDay(), -1);
        x = Due.told("house lines 1;person 4;person 5 in 199 to 199;day 100;");
        Due.is("in 99", x.firstDay(), 99);
        x = Due.told("house lines 1;person 4;person 5 in 200 to 200;day 100;");
        Due.is("in 100", x.firstDay(), -1);
        x = Due.told("house lines 1;" + "person 0;".repeat(9) + "person 0 in 3 to 9;opposes : who + other = 9;");
        Due.is("all ten on day 3", x.firstDay(), 3);
        x.send(0);
        Due.is("those in town: 1 to 8 today", x.firstDay(), 0);
    }

    /** The laws of a day to come see that day, not today's. */
    private static void daysOfTheWeek() {
        for (int today = 0; today < 7; today++) {
            for (int wanted = 0; wanted < 7; wanted++) {
                OppositeHouse x = Due.told("house lines 1;person 0;person 0;opposes : day = " + wanted + ";day " + today + ";");
                int due = (wanted - today + 7) % 7;
                Due.is("from " + today + " to " + wanted, x.firstDay(), due);
                Due.is("from " + today + " to " + wanted, x.bestDay(), due);
            }
        }
        OppositeHouse x = Due.told("house lines 1;person 0;person 0 in 90 to 200;opposes : day = 6;");
        Due.is("day 90", x.firstDay(), 90);
        x.days(90);
        x.days(1);
        Due.is("day 97, in 6", x.firstDay(), 6);
        Due.is("day 97, in 6", x.bestDay(), 6);
    }

    /** Promise 24: "The set of most of those IN TOWN that SITS, of like ones the least as bits". */
    private static void quorumOfNoneAndAll() {
        Due.is("nobody", new OppositeHouse().quorum(), 0);
        Due.is("nobody of ten", Due.told(NO_ONE).quorum(), 0);
        OppositeHouse x = Due.told(MIRROR);
        Due.is("all", x.quorum(), 1023);
        x.send(9);
        Due.is("1 to 8", x.quorum(), 510);
        x = Due.told(STAR);
        Due.is("0 and 9", x.quorum(), 513);
        x.send(0);
        Due.is("1 and 9", x.quorum(), 514);
        x.send(9);
        Due.is("nobody", x.quorum(), 0);
        x = Due.told("house lines 1;" + "person 0;".repeat(9) + "opposes : 1 = 1;");
        Due.is("of nine the first eight", x.quorum(), 255);
        Due.is("the two alone", Due.told("house lines 1;person 4;person 5;").quorum(), 3);
    }

    /** Promise 25: "how many", "which, as bits; NONE: none is". */
    private static void coverOfNoneAndAll() {
        OppositeHouse x = Due.told(MIRROR);
        Due.is("of nobody", x.cover(0, 0), 0);
        Due.is("of nobody", x.cover(0, 1), 0);
        Due.is("0 to 4 by 5 to 9", x.cover(31, 0), 5);
        Due.is("0 to 4 by 5 to 9", x.cover(31, 1), 992);
        Due.is("5 to 9 by 0 to 4", x.cover(992, 1), 31);
        Due.is("all: there are no others", x.cover(1023, 0), -1);
        Due.is("all but 9: 1 has an opposite of the set alone", x.cover(511, 1), -1);
        Due.is("9 by 0", x.cover(512, 1), 1);
        for (int what : new int[] {-1, 2, Integer.MAX_VALUE, Integer.MIN_VALUE}) {
            Due.is("what " + what, x.cover(0, what), -2);
            Due.is("what " + what + " ahead of the set", x.cover(1024, what), -2);
        }
        x = Due.told(ALL);
        Due.is("of like ones 0", x.cover(1022, 1), 1);
        Due.is("of like ones 1", x.cover(1, 1), 2);
        Due.is("nine by one", x.cover(511, 1), 512);
        Due.is("of nobody, by nobody", new OppositeHouse().cover(0, 1), 0);
    }

    /** "the fewest IN TOWN, not of the set". */
    private static void coverByThoseInTown() {
        OppositeHouse x = Due.told("house lines 1;" + "person 0;".repeat(8) + "person 9 in 5 to 9;person 9;");
        Due.is("9, as 8 isn't in town", x.cover(1, 1), 512);
        Due.is("8, not in town itself, by 0", x.cover(256, 1), 1);
        x.send(9);
        Due.is("none", x.cover(1, 1), -1);
        x.days(5);
        Due.is("8", x.cover(1, 1), 256);
        Due.is("9, away itself, by 0", x.cover(512, 1), 1);
        Due.is("8 is of the set", x.cover(257, 1), -1);
    }

    /** Promise 26: "the OPPOSITE of most of a set, not of it, the first. NONE: nobody else is IN TOWN". */
    private static void laundressOfNoneAndAll() {
        OppositeHouse x = Due.told(MIRROR);
        Due.is("of nobody: the first", x.laundress(0), 0);
        Due.is("of all: nobody else", x.laundress(1023), -1);
        for (int p = 0; p < 10; p++) {
            Due.is("its opposite", x.laundress(1 << p), 9 - p);
            Due.is("the one that is left", x.laundress(1023 & ~(1 << p)), p);
        }
        Due.is("none opposes 0 or 9, the first of the others", x.laundress(513), 1);
        Due.is("without people", new OppositeHouse().laundress(0), -1);
        x = Due.told(STAR);
        Due.is("9 opposes each", x.laundress(255), 9);
        Due.is("of like ones the first", x.laundress(512), 0);
        Due.is("of like ones the first", x.laundress(515), 2);
    }

    /** "The PERSON IN TOWN". */
    private static void laundressByThoseInTown() {
        OppositeHouse x = Due.told("house lines 1;person 0;person 0;person 9 in 5 to 9;person 9;");
        Due.is("3, as 2 isn't in town", x.laundress(3), 3);
        x.send(3);
        Due.is("nobody else", x.laundress(3), -1);
        Due.is("1 is in town, whom it doesn't oppose", x.laundress(1), 1);
        x.days(5);
        Due.is("2", x.laundress(3), 2);
        x.send(0);
        x.send(1);
        x.send(2);
        Due.is("nobody at all", x.laundress(0), -1);
        Due.is("the set ahead of none", x.laundress(16), -3);
    }
}
