/** Promises 37 and 38: how likely those that come sit, whom to keep in reserve. */
final class ChancesTest {
    private ChancesTest() {
    }

    public static void main(String[] args) {
        chance();
        chanceOfMany();
        chanceRefused();
        reserve();
        Due.end();
    }

    private static void chance(OppositeHouse x, int set, long above, long below) {
        Due.is("chance(" + set + ", 0)", x.chance(set, 0), above);
        Due.is("chance(" + set + ", 1)", x.chance(set, 1), below);
    }

    private static void chance() {
        OppositeHouse x = Due.told("house lines 1;person 9 temper 5;person 0 temper 3;person 0 temper 10;person 4 temper 0;person 5 in 7 to 8 temper 2;");
        chance(x, 0, 1, 1);
        // One alone sits if it doesn't come.
        chance(x, 1, 1, 2);
        chance(x, 2, 7, 10);
        chance(x, 4, 0, 1);
        chance(x, 8, 1, 1);
        chance(x, 16, 4, 5);
        // Both (15) or none (35) of 100.
        chance(x, 3, 1, 2);
        // 2 comes, so 0 must.
        chance(x, 5, 1, 2);
        // 3 never comes: 4 mustn't.
        chance(x, 24, 4, 5);
        // 0 and 2 come without 1: 5 * 7 of 100.
        chance(x, 7, 7, 20);
    }

    private static void chanceOfMany() {
        OppositeHouse x = Due.told("house lines 1;" + "person 0 temper 5;".repeat(10) + "opposes : 1 = 1;");
        chance(x, 1023, 1, 2);
        x = Due.told("house lines 1;" + "person 0 temper 1;".repeat(10) + "opposes : 1 = 2;");
        // Nobody comes: 9 to the tenth of 10 to the tenth.
        chance(x, 1023, 3486784401L, 10000000000L);
        x = Due.told("house lines 1;" + "person 0;".repeat(10) + "opposes : 1 = 1;");
        chance(x, 1023, 1, 1);
        chance(x, 511, 0, 1);
    }

    private static void chanceRefused() {
        OppositeHouse x = Due.told("house lines 1;person 9;");
        Due.is("what ahead of the set", x.chance(2, 2), -2);
        Due.is("what below 0", x.chance(0, -1), -2);
        Due.is("the set", x.chance(2, 0), -3);
        Due.is("the set below 0", x.chance(-1, 1), -3);
    }

    private static void reserve() {
        OppositeHouse x = Due.told("house lines 1;person 9 temper 5;person 0 temper 3;person 0 temper 8;person 4 temper 0;person 0 in 7 to 8;person 0 temper 8;");
        // 0 alone: 5 of 10. With 1: 5 of 10; with 2: 40 + 10 of 100; all are like it.
        Due.is("none is better", x.reserve(1), -1);
        x = Due.told("house lines 1;person 9 temper 8;person 0 temper 3;person 0 temper 8;person 4 temper 0;person 0 in 7 to 8;person 0 temper 8;");
        // 0 alone: 2 of 10. With 1: 24 + 14; with 2 and with 5: 64 + 4.
        Due.is("2, the first of like ones", x.reserve(1), 2);
        x.send(2);
        Due.is("5, as 2 is away", x.reserve(1), 5);
        x.send(5);
        Due.is("1", x.reserve(1), 1);
        x.days(7);
        // With 4, who always comes: 80 of 100.
        Due.is("4, who has come to town", x.reserve(1), 4);
        Due.is("of nobody: it is sure", x.reserve(0), -1);
        Due.is("nobody is left in town", x.reserve(31), -1);
        Due.is("the set", x.reserve(64), -3);
        Due.is("the set below 0", x.reserve(-2), -3);
    }
}
