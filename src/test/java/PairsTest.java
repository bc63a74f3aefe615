/** Promises 17 to 24: who sits, pairs, ways, bars, pieces, days of pairs, quorums. */
final class PairsTest {
    /** Opposites are neighbours on a way 0 - 1 - 2 - 3 - 4. */
    private static final String WAY = "house lines 1;person 0 weight 9;person 0;person 0 weight 9;person 0;person 0 weight 9;"
            + "opposes : other = who + 1;";
    /** Opposites are 0 and each other one. */
    private static final String STAR = "house lines 1;person 9;person 0;person 0;person 0 weight 5;";

    private PairsTest() {
    }

    public static void main(String[] args) {
        sits();
        pairsMostTwos();
        pairsGreatestWeight();
        pairsFirstByPartners();
        pairsRefused();
        ways();
        bar();
        barOfLike();
        pieces();
        bestDay();
        bestDayByLaw();
        firstDay();
        quorum();
        Due.end();
    }

    private static void sits() {
        OppositeHouse x = Due.told(WAY);
        Due.is("nobody", x.sits(0), 1);
        Due.is("one", x.sits(1), 0);
        Due.is("0 1", x.sits(3), 1);
        Due.is("0 2", x.sits(5), 0);
        Due.is("0 1 2", x.sits(7), 0);
        Due.is("0 1 2 3", x.sits(15), 1);
        Due.is("0 1 3 4", x.sits(27), 1);
        Due.is("1 2 and 3 4 once 0 isn't there", x.sits(30), 1);
        Due.is("0 1 2 4", x.sits(23), 0);
        Due.is("all", x.sits(31), 0);
        Due.is("others than people", x.sits(32), -3);
        Due.is("below 0", x.sits(-1), -3);
        x.send(0);
        Due.is("those away, too", x.sits(3), 1);
        x = Due.told("house lines 1;person 4;person 5;opposes : day = 1;");
        Due.is("on day 0", x.sits(3), 0);
        x.days(1);
        Due.is("on day 1", x.sits(3), 1);
    }

    private static long[] partners(OppositeHouse x, int set) {
        long[] partners = new long[x.count(1)];
        for (int p = 0; p < partners.length; p++) {
            partners[p] = x.pairs(set, 10 + p);
        }
        return partners;
    }

    private static void pairsMostTwos() {
        OppositeHouse x = Due.told(WAY);
        Due.is("two twos", x.pairs(31, 0), 2);
        // Of 0-1 2-3, 0-1 3-4, 1-2 3-4 each has the weight 9 + 1 + 9 + 1.
        Due.is("their weight", x.pairs(31, 1), 20);
        Due.all("first by partners", partners(x, 31), 1, 0, 3, 2, -1);
        Due.is("more twos, not more weight", x.pairs(15, 0), 2);
        Due.all("0-1 2-3", partners(x, 15), 1, 0, 3, 2, -1);
        Due.all("1-2 of 1 2 4", partners(x, 22), -1, 2, 1, -1, -1);
        Due.is("of nobody", x.pairs(0, 0), 0);
        Due.is("of nobody", x.pairs(0, 1), 0);
        Due.all("of nobody", partners(x, 0), -1, -1, -1, -1, -1);
        x = Due.told("house lines 1;person 0 weight 1;person 9 weight 99;person 0 weight 99;person 9 weight 1;opposes : other = who + 1;");
        Due.is("two light twos ahead of a heavy one", x.pairs(15, 0), 2);
    }

    private static void pairsGreatestWeight() {
        OppositeHouse x = Due.told(STAR);
        Due.is("one two", x.pairs(15, 0), 1);
        Due.is("the heaviest", x.pairs(15, 1), 6);
        Due.all("0 with 3", partners(x, 15), 3, -1, -1, 0);
        Due.is("without 3", x.pairs(7, 1), 2);
        Due.all("0 with 1, the first", partners(x, 7), 1, 0, -1, -1);
        Due.all("0 with 2 of 0 2", partners(x, 5), 2, -1, 0, -1);
    }

    private static void pairsFirstByPartners() {
        OppositeHouse x = Due.told("house lines 1;person 0;person 0;person 0;person 0;opposes : 1 = 1;");
        Due.all("0-1 2-3", partners(x, 15), 1, 0, 3, 2);
        Due.all("of three the last is left over", partners(x, 7), 1, 0, -1, -1);
        Due.all("of 1 2 3", partners(x, 14), -1, 2, 1, -1);
        // A way 0 - 1 - 2 of like weights: 0-1 stands ahead of 1-2, none behind all.
        x = Due.told("house lines 1;person 0;person 0;person 0;opposes : other = who + 1;");
        Due.all("0 with 1, not none", partners(x, 7), 1, 0, -1);
        // 1 and 2 are both opposites of 0 and of 3: 0-1 2-3 ahead of 0-2 1-3.
        x = Due.told("house lines 1;person 9;person 0;person 0;person 9;");
        Due.all("0-1 2-3", partners(x, 15), 1, 0, 3, 2);
        x = Due.told("house lines 1;person 9;person 1;person 0;person 9 weight 3;person 0 weight 3;person 8;");
        Due.all("of like weight in all, by order", partners(x, 29), 2, -1, 0, 4, 3, -1);
        Due.all("of like weight in all, by order", partners(x, 63), 2, 5, 0, 4, 3, 1);
        Due.all("weight ahead of order", partners(x, 21), 4, -1, -1, -1, 0, -1);
    }

    private static void pairsRefused() {
        OppositeHouse x = Due.told(STAR);
        Due.is("what 2", x.pairs(0, 2), -2);
        Due.is("what 9", x.pairs(0, 9), -2);
        Due.is("what -1", x.pairs(0, -1), -2);
        Due.is("10 and no person", x.pairs(0, 14), -2);
        Due.is("what ahead of the set", x.pairs(16, 14), -2);
        Due.is("the set", x.pairs(16, 13), -3);
        Due.is("the set below 0", x.pairs(-1, 0), -3);
        Due.is("what far below 0", x.pairs(0, Integer.MIN_VALUE), -2);
        Due.is("one not of the set", x.pairs(3, 13), -1);
    }

    private static void ways() {
        OppositeHouse x = Due.told("house lines 1;" + "person 0;".repeat(10) + "opposes : 1 = 1;");
        Due.is("of nobody", x.ways(0), 1);
        Due.is("of one", x.ways(4), 0);
        Due.is("of two", x.ways(513), 1);
        Due.is("of four", x.ways(15), 3);
        Due.is("of six", x.ways(63), 15);
        Due.is("of eight", x.ways(255), 105);
        Due.is("of nine", x.ways(511), 0);
        Due.is("of ten", x.ways(1023), 945);
        Due.is("the set", x.ways(1024), -3);
        Due.is("the set below 0", x.ways(-1), -3);
        x = Due.told("house lines 1;person 9;person 9;person 0;person 0;person 0;person 9;");
        Due.is("three and three", x.ways(63), 6);
        Due.is("one and two", x.ways(13), 0);
        Due.is("two and two", x.ways(15), 2);
    }

    private static void bar() {
        OppositeHouse x = Due.told(STAR);
        Due.is("0 bars the star", x.bar(15, 1), 1);
        Due.is("how many", x.bar(15, 0), 1);
        Due.is("1 2 3 fall apart anyway", x.bar(14, 1), 0);
        Due.is("0 1 sit", x.bar(3, 0), 0);
        Due.is("0 1 2: 0 leaves two odd ones", x.bar(7, 1), 0);
        Due.is("nobody", x.bar(0, 1), 0);
        Due.is("what ahead of the set", x.bar(16, 2), -2);
        Due.is("what below 0", x.bar(0, -1), -2);
        Due.is("the set", x.bar(16, 0), -3);
        Due.is("the set below 0", x.bar(-1, 1), -3);
    }

    private static void barOfLike() {
        // Two stars, of 0 and of 4, each with three: two are left over in each.
        String text = "house lines 1;" + "person 0;".repeat(8)
                + "opposes : who = 0 and other < 4 or who = 4 and other > 4;";
        OppositeHouse x = Due.told(text);
        Due.is("0 and 4", x.bar(255, 1), 17);
        Due.is("both", x.bar(255, 0), 2);
        // 0 and 1 each oppose 2, 3, 4, 5: two are left over, and both are asked for.
        x = Due.told("house lines 1;" + "person 0;".repeat(6) + "opposes : who < 2 and other > 1;");
        Due.is("0 and 1", x.bar(63, 1), 3);
        Due.is("of three and two nobody: one odd piece, one left over", x.bar(31, 1), 0);
        // 0 opposes 2 3 4, 4 opposes 0 1 5: without 0 and without 4 there are three odd pieces each.
        x = Due.told("house lines 1;" + "person 0;".repeat(6)
                + "opposes : who = 0 and other > 1 and other < 5 or who = 4 and [other = 1 or other = 5];");
        Due.is("0, the least of like ones", x.bar(63, 1), 1);
        // Three threes of opposites, and 9, who opposes all.
        x = Due.told("house lines 1;" + "person 0;".repeat(10)
                + "opposes : who = 9 or who < 3 and other < 3 or who > 2 and who < 6 and other > 2 and other < 6"
                + " or who > 5 and other > 5;");
        Due.is("9 leaves three odd pieces", x.bar(1023, 1), 512);
        Due.is("twos", x.pairs(1023, 0), 4);
    }

    private static void pieces() {
        OppositeHouse x = Due.told(WAY);
        Due.is("the whole way", x.pieces(31), 1);
        Due.is("nobody", x.pieces(0), 0);
        Due.is("each alone", x.pieces(21), 3);
        Due.is("0 1 and 3 4", x.pieces(27), 2);
        Due.is("1 alone", x.pieces(2), 1);
        Due.is("the set", x.pieces(32), -3);
        Due.is("the set below 0", x.pieces(-32), -3);
        x = Due.told("house lines 1;" + "person 0;".repeat(10) + "opposes : other = who + 5 or who = 0 and other = 9;");
        Due.is("five twos, two of them joined", x.pieces(1023), 4);
    }

    private static void bestDay() {
        OppositeHouse x = Due.told("house lines 1;person 9;person 0 in 12 to 20;person 9 in 14 to 15;person 0 in 15 to 15;day 10;");
        Due.is("day 15, the first of two twos, in 5", x.bestDay(), 5);
        x.days(5);
        Due.is("today", x.bestDay(), 0);
        x.days(1);
        Due.is("the first of one two, today", x.bestDay(), 0);
        x.days(5);
        Due.is("none: today", x.bestDay(), 0);
        x = Due.told("house lines 1;person 9;person 0 in 99 to 99;person 0 in 100 to 100 weight 50;");
        Due.is("in 99 days", x.bestDay(), 99);
        x.send(1);
        Due.is("100 days are too many", x.bestDay(), 0);
        x = Due.told("house lines 1;person 9;person 0 in 5 to 6;person 0 in 6 to 6 weight 50;");
        Due.is("most twos, whatever their weight", x.bestDay(), 5);
        x.send(0);
        Due.is("those away don't count", x.bestDay(), 0);
        x = new OppositeHouse();
        x.days(1);
        Due.is("without people today, whatever its number", x.bestDay(), 0);
        x = Due.told("house lines 1;person 9;person 0 in 999 to 999;day 900;");
        Due.is("day 999, in 99", x.bestDay(), 99);
    }

    private static void bestDayByLaw() {
        OppositeHouse x = Due.told("house lines 1;person 1;person 1;person 2;person 2;opposes : day = 3 or day = 5 and ease = unease;day 4;");
        Due.is("of days 5 and 10 the first, tomorrow", x.bestDay(), 1);
        Due.is("the first on which they sit", x.firstDay(), 1);
        x.days(2);
        Due.is("day 10, in 4", x.bestDay(), 4);
        Due.is("day 10, in 4", x.firstDay(), 4);
        x = Due.told("house lines 1;person 1;person 1;person 2;person 2;opposes : day = 6 or day = 0 and who = 0 and other = 1;");
        Due.is("more twos later", x.bestDay(), 6);
    }

    private static void firstDay() {
        OppositeHouse x = Due.told("house lines 1;person 9 in 3 to 9;person 0 in 12 to 20;person 9 in 14 to 16;person 0 in 15 to 15;day 10;");
        Due.is("1 and 2 on day 14, in 4", x.firstDay(), 4);
        x.days(5);
        Due.is("of 1 2 3 none; day 16, in 1", x.firstDay(), 1);
        x.days(1);
        Due.is("today", x.firstDay(), 0);
        x.days(1);
        Due.is("never again", x.firstDay(), -1);
        x.days(10);
        Due.is("nobody in town doesn't count", x.firstDay(), -1);
        x = Due.told("house lines 1;person 9;person 0 in 99 to 99;");
        Due.is("in 99 days", x.firstDay(), 99);
        x = Due.told("house lines 1;person 9;person 0 in 100 to 100;");
        Due.is("in 100 days", x.firstDay(), -1);
        x.days(1);
        Due.is("in 99 days a day later", x.firstDay(), 99);
        x.days(98);
        Due.is("tomorrow", x.firstDay(), 1);
    }

    private static void quorum() {
        OppositeHouse x = Due.told(WAY);
        Due.is("0 1 2 3 of the way", x.quorum(), 15);
        x.send(2);
        Due.is("0 1 3 4", x.quorum(), 27);
        x.send(3);
        Due.is("0 1", x.quorum(), 3);
        x.send(0);
        Due.is("nobody", x.quorum(), 0);
        x = Due.told(STAR);
        Due.is("0 and 1, the least as bits", x.quorum(), 3);
        x.send(1);
        Due.is("0 and 2", x.quorum(), 5);
        x = Due.told("house lines 1;person 9;person 0 in 1 to 2;person 0;");
        Due.is("those in town", x.quorum(), 5);
    }
}
