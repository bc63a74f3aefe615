/** Promises 30 to 33: who says aye, what passes, the fewest to be sent away for it. */
final class BillsTest {
    private BillsTest() {
    }

    public static void main(String[] args) {
        ayesWithoutLaw();
        ayesByLaw();
        passes();
        passed();
        passedOfLike();
        easiest();
        Due.end();
    }

    private static void ayesWithoutLaw() {
        OppositeHouse x = Due.told("house lines 1;person 4;person 5;person 9;person 6 in 1 to 1;person 0;");
        Due.is("ease above 4, in town", x.ayes(0), 6);
        Due.is("each bill alike", x.ayes(9), 6);
        Due.is("bill 10", x.ayes(10), -3);
        Due.is("bill -1", x.ayes(-1), -3);
        x.days(1);
        Due.is("3 has come", x.ayes(0), 14);
        x.send(1);
        Due.is("1 is away", x.ayes(0), 12);
    }

    private static void ayesByLaw() {
        OppositeHouse x = Due.told("house lines 3;person 1 2 3;person 4 5 6;person 7 8 9;ayes : bill * who + day = faith + war - ease;day 5;");
        // faith + war - ease is 4, 7, 10; with day 5: bill * who is -1, 2, 5.
        Due.is("bill 2: 1", x.ayes(2), 2);
        Due.is("bill 3: nobody", x.ayes(3), 0);
        x.days(6);
        // Day 11 is 4 of 7: bill * who is 0, 3, 6.
        Due.is("bill 3: all", x.ayes(3), 7);
        Due.is("bill 0: 0", x.ayes(0), 1);
    }

    private static void passes() {
        OppositeHouse x = Due.told("house lines 1;person 5;person 4;");
        Due.is("they sit, one of two says aye", x.passes(0), 0);
        x = Due.told("house lines 1;person 5;person 4;person 9;person 0;ayes : ease > 0;");
        Due.is("they sit, three of four", x.passes(0), 1);
        x = Due.told("house lines 1;person 5;person 4;person 9;ayes : ease > 0;");
        Due.is("they don't sit", x.passes(0), 0);
        x.send(2);
        Due.is("two of two", x.passes(0), 1);
        x = new OppositeHouse();
        Due.is("nobody", x.passes(0), 0);
        Due.is("bill 10", x.passes(10), -3);
        Due.is("bill -1", x.passes(-1), -3);
    }

    private static void passed() {
        OppositeHouse x = Due.told("house lines 1;person 5;person 4;person 9;person 0;person 7;ayes : ease > 3 + bill;");
        // Bill 0: 0 1 2 4 say aye; 4 has no opposite and must go.
        Due.is("4 goes", x.passed(0, 1), 16);
        Due.is("one", x.passed(0, 0), 1);
        // Bill 1: 0 2 4 say aye: of 0 1 2 3 two of four; of any two one.
        Due.is("it can't", x.passed(1, 0), -1);
        Due.is("it can't", x.passed(1, 1), -1);
        Due.is("what ahead of the bill", x.passed(10, 2), -2);
        Due.is("what below 0", x.passed(0, -1), -2);
        Due.is("bill 10", x.passed(10, 0), -3);
        Due.is("bill -1", x.passed(-1, 1), -3);
        x.send(4);
        Due.is("none needs to go", x.passed(0, 0), 0);
        Due.is("none needs to go", x.passed(0, 1), 0);
        Due.is("nothing is changed", x.count(3), 16);
        Due.is("nobody", new OppositeHouse().passed(0, 0), -1);
    }

    private static void passedOfLike() {
        OppositeHouse x = Due.told("house lines 1;person 9;person 0;person 0;person 0;ayes : who < 3;");
        // Two of 1 2 3 must go, 3 among them, who doesn't say aye: 1 and 3 are 10, 2 and 3 are 12.
        Due.is("1 and 3", x.passed(0, 1), 10);
        x = Due.told("house lines 1;person 9;person 0;person 9;person 0;ayes : who = 2 or who = 3;");
        Due.is("0 and 1", x.passed(0, 1), 3);
        x.send(0);
        // 1 2 3 in town: one of 1, 3 goes; 2 and 3 say aye.
        Due.is("1", x.passed(0, 1), 2);
    }

    private static void easiest() {
        OppositeHouse x = Due.told("house lines 1;person 5;person 4;person 9;person 0;person 7;ayes : ease + bill > 6;");
        // All in town don't sit, so one at least goes: 4. Of 0 1 2 3: bill 2: 0 2; bill 3: 0 1 2.
        Due.is("bill 3", x.easiest(), 3);
        Due.is("by one", x.passed(3, 0), 1);
        Due.is("bill 2 can't", x.passed(2, 0), -1);
        x = Due.told("house lines 1;person 5;person 4;person 9;person 0;ayes : bill = 7 or bill > 3 and who < 2 or bill = 9;");
        Due.is("bill 4 passes by two", x.passed(4, 0), 2);
        Due.is("bill 7 by none, as bill 9", x.easiest(), 7);
        x = Due.told("house lines 1;person 5;person 4;ayes : 1 = 2;");
        Due.is("none can", x.easiest(), -1);
        Due.is("none can", new OppositeHouse().easiest(), -1);
        x = Due.told("house lines 1;person 5;person 4;ayes : 1 = 1;");
        Due.is("the first of all", x.easiest(), 0);
    }
}
