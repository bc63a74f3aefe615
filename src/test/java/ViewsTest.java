/** Promises 34 to 36: views told from who opposes one, whom to try next. */
final class ViewsTest {
    private ViewsTest() {
    }

    public static void main(String[] args) {
        hidden();
        hiddenAt();
        hiddenOfMoreLines();
        refused();
        hiddenIsFoundAnew();
        probe();
        probeNone();
        Due.end();
    }

    private static void hidden() {
        OppositeHouse x = Due.told("house lines 1;person 4;person 9;person 0;person 0;person 3 in 5 to 6;");
        Due.is("opposed to none in town: not 0, not 9", x.hidden(0, 0), 8);
        Due.is("opposed to 1: 0", x.hidden(0, 2), 1);
        Due.is("opposed to 2 and 3: 9", x.hidden(0, 12), 1);
        Due.is("opposed to 2 alone: none", x.hidden(0, 4), 0);
        Due.is("of one not in town, all others are in town", x.hidden(4, 1), 1);
        Due.is("its own views don't count", x.hidden(1, 12), 1);
        x.send(3);
        Due.is("opposed to 2, 3 is away: 9", x.hidden(0, 4), 1);
    }

    private static void hiddenAt() {
        OppositeHouse x = Due.told("house lines 1;person 4;person 9;person 0;");
        long[] want = {100, 200, 300, 400, 500, 600, 700, 800, -1, -1};
        for (int k = 0; k < want.length; k++) {
            Due.is("hiddenAt(0, 0, " + k + ")", x.hiddenAt(0, 0, k), want[k]);
        }
        Due.is("9", x.hiddenAt(0, 4, 0), 900);
        Due.is("0", x.hiddenAt(0, 2, 0), 0);
        Due.is("none", x.hiddenAt(0, 6, 0), -1);
        Due.is("far behind", x.hiddenAt(0, 0, Integer.MAX_VALUE), -1);
    }

    private static void hiddenOfMoreLines() {
        OppositeHouse x = Due.told("house lines 2;person 4 4;person 9 1;opposes : ease + faith = unfaith;");
        // (0, 1) and (1, 0) by its own way; by the other way 10 = faith: none.
        Due.is("two", x.hidden(0, 2), 2);
        Due.is("0 1", x.hiddenAt(0, 2, 0), 10);
        Due.is("1 0", x.hiddenAt(0, 2, 1), 100);
        Due.is("the rest of 100", x.hidden(0, 0), 98);
        x = Due.told("house lines 3;person 4 4 4;person 9 1 2;opposes : war = unwar + 1 and faith = 7;");
        Due.is("ten", x.hidden(0, 2), 10);
        Due.is("0 7 3", x.hiddenAt(0, 2, 0), 73);
        Due.is("9 7 3", x.hiddenAt(0, 2, 9), 973);
        Due.is("the rest of 1000", x.hidden(0, 0), 990);
        x = Due.told("house lines 2;person 4 4;person 9 1;opposes : unfaith = 1 and other = 1 and day = 2;day 9;");
        Due.is("by the law of the other one: all", x.hidden(0, 2), 100);
        Due.is("the last of them", x.hiddenAt(0, 2, 99), 990);
    }

    private static void refused() {
        OppositeHouse x = Due.told("house lines 1;person 4;person 9;person 0 in 1 to 2;");
        Due.is("no such one", x.hidden(3, 0), -2);
        Due.is("below 0", x.hidden(-1, 8), -2);
        Due.is("the set has the one", x.hidden(0, 1), -3);
        Due.is("one who isn't in town", x.hidden(0, 4), -3);
        Due.is("others than people", x.hidden(0, 8), -3);
        Due.is("the set below 0", x.hidden(0, -1), -3);
        Due.is("hiddenAt: no such one", x.hiddenAt(3, 1, -1), -2);
        Due.is("hiddenAt: the set", x.hiddenAt(0, 1, 0), -3);
        Due.is("hiddenAt: k", x.hiddenAt(0, 2, -1), -3);
        Due.is("probe: no such one", x.probe(-1, 0), -2);
        Due.is("probe: the set", x.probe(0, 5), -3);
    }

    private static void hiddenIsFoundAnew() {
        OppositeHouse x = Due.told("house lines 1;person 4;person 8;person 3;");
        Due.is("1", x.hiddenAt(0, 2, 0), 100);
        x.talk(1, 2);
        Due.is("2, behind a talk", x.hiddenAt(0, 2, 0), 200);
        x.undo(1);
        Due.is("1 again", x.hiddenAt(0, 2, 0), 100);
        Due.is("the other set", x.hiddenAt(0, 4, 0), 600);
        Due.is("of another one", x.hiddenAt(2, 2, 0), 100);
        Due.is("of another one", x.hiddenAt(1, 4, 0), 600);
    }

    private static void probe() {
        OppositeHouse x = Due.told("house lines 1;person 4;person 9;person 0 in 5 to 6;person 3 in 5 to 6;person 7 in 5 to 6;"
                + "opposes : ease + unease > 8 + who * other;");
        // Those that 0 can have: with 1 (ease 9): all of 0 to 9 are opposites.
        // With 2 (0): ease above 8: 1 of 10; with 3 (3): above 5: 4; with 4 (7): above 1: 8, so 2.
        Due.is("3 is most even", x.probe(0, 2), 3);
        Due.is("no such views", x.probe(0, 0), -1);
        x.send(3);
        Due.is("3 is still most even", x.probe(0, 2), 3);
        x = Due.told("house lines 1;person 4;person 9 in 5 to 6;person 9 in 5 to 6;person 5;");
        // 0 can have all but 4: nine; 1 and 2 are opposites of 0 by one of them.
        Due.is("of like ones the first", x.probe(0, 0), 1);
        Due.is("4 alone: each is as even, the first", x.probe(0, 8), 1);
        Due.is("not the one", x.probe(1, 0), 2);
    }

    private static void probeNone() {
        OppositeHouse x = Due.told("house lines 1;person 4;person 9;person 9;");
        Due.is("all are in town", x.probe(0, 0), -1);
        x.send(0);
        Due.is("the one alone isn't", x.probe(0, 0), -1);
        Due.is("0 for 1: of all but 0", x.probe(1, 0), 0);
        Due.is("no such views: 1 without 2", x.probe(0, 2), -1);
    }
}
