/** The edges of bills (Terms 2 and 3, promises 30 to 33): ties, nobody, all, of like ones the first. */
final class BillEdgesTest {
    /** 0 and 9, 1 and 8, 2 and 7, 3 and 6, 4 and 5 are opposites; as many as the bill's number say aye, from 0 on. */
    private static final String MIRROR = "house lines 1;" + "person 0;".repeat(10) + "opposes : who + other = 9;ayes : who < bill;";
    private static final int[] NO_BILLS = {-1, 10, 11, Integer.MIN_VALUE, Integer.MAX_VALUE};

    private BillEdgesTest() {
    }

    public static void main(String[] args) {
        noSuchBill();
        ayesOfThoseInTown();
        moreThanDoNot();
        nobodyInTown();
        whoDoesNotSit();
        passedByNone();
        passedNever();
        passedByEight();
        passedOfThoseInTown();
        leastOfLikeOnes();
        easiestOfAll();
        easiestOfNone();
        Due.end();
    }

    /** Promise 30: "-3: the BILL (as everywhere)"; promise 32: "-2: what; -3". */
    private static void noSuchBill() {
        OppositeHouse x = Due.told(MIRROR);
        for (int bill : NO_BILLS) {
            Due.is("ayes(" + bill + ")", x.ayes(bill), -3);
            Due.is("passes(" + bill + ")", x.passes(bill), -3);
            Due.is("passed(" + bill + ", 0)", x.passed(bill, 0), -3);
            Due.is("passed(" + bill + ", 1)", x.passed(bill, 1), -3);
            for (int what : new int[] {-1, 2, Integer.MIN_VALUE, Integer.MAX_VALUE}) {
                Due.is("what ahead of the bill", x.passed(bill, what), -2);
            }
        }
        for (int what : new int[] {-1, 2, Integer.MIN_VALUE, Integer.MAX_VALUE}) {
            Due.is("what", x.passed(9, what), -2);
        }
        x = new OppositeHouse();
        Due.is("-3 ahead of NONE", x.passed(10, 0), -3);
        Due.is("-2 ahead of NONE", x.passed(0, 2), -2);
    }

    /** "Who of those IN TOWN says AYE". */
    private static void ayesOfThoseInTown() {
        OppositeHouse x = Due.told(MIRROR);
        for (int bill = 0; bill < 10; bill++) {
            Due.is("bill " + bill, x.ayes(bill), (1 << bill) - 1);
        }
        x.send(0);
        x.send(8);
        Due.is("1 to 7", x.ayes(9), 254);
        x = Due.told("house lines 1;" + "person 9;".repeat(9) + "person 9 in 3 to 3;");
        Due.is("9 isn't in town", x.ayes(0), 511);
        x.days(3);
        Due.is("9 is in town", x.ayes(0), 1023);
        Due.is("without people", new OppositeHouse().ayes(9), 0);
    }

    /** "and more say AYE than don't". */
    private static void moreThanDoNot() {
        OppositeHouse x = Due.told(MIRROR);
        for (int bill = 0; bill < 10; bill++) {
            Due.is("bill " + bill + " of ten", x.passes(bill), bill > 5 ? 1 : 0);
        }
        x = Due.told("house lines 1;person 4;person 5;ayes : who < bill;");
        Due.is("none of two", x.passes(0), 0);
        Due.is("one of two", x.passes(1), 0);
        Due.is("two of two", x.passes(2), 1);
        x = Due.told("house lines 1;person 4;person 5;person 4;person 5;ayes : who < bill;");
        Due.is("two of four", x.passes(2), 0);
        Due.is("three of four", x.passes(3), 1);
    }

    /** Nobody sits, but none is no more than none. */
    private static void nobodyInTown() {
        OppositeHouse x = new OppositeHouse();
        Due.is("passes", x.passes(0), 0);
        Due.is("passed", x.passed(0, 0), -1);
        Due.is("passed", x.passed(0, 1), -1);
        x = Due.told("house lines 1;person 9;");
        x.send(0);
        Due.is("passes", x.passes(0), 0);
        Due.is("passed", x.passed(0, 0), -1);
    }

    /** "if those IN TOWN SIT". */
    private static void whoDoesNotSit() {
        OppositeHouse x = Due.told("house lines 1;person 9;");
        Due.is("one says aye, alone", x.passes(0), 0);
        x = Due.told("house lines 1;person 9;person 9;");
        Due.is("both say aye, and aren't opposites", x.passes(0), 0);
        x = Due.told("house lines 1;person 9;person 0;person 9;ayes : 1 = 1;");
        Due.is("three", x.passes(0), 0);
        x.send(2);
        Due.is("two", x.passes(0), 1);
    }

    /** "PASSED: the fewest of these to be SENT AWAY": none, if it passes. */
    private static void passedByNone() {
        OppositeHouse x = Due.told(MIRROR);
        for (int bill = 6; bill < 10; bill++) {
            Due.is("how many", x.passed(bill, 0), 0);
            Due.is("which", x.passed(bill, 1), 0);
        }
    }

    /** "NONE: it can't". */
    private static void passedNever() {
        OppositeHouse x = Due.told(MIRROR);
        Due.is("of each two one doesn't say aye", x.passed(5, 0), -1);
        Due.is("of each two one doesn't say aye", x.passed(5, 1), -1);
        Due.is("nobody says aye", x.passed(0, 1), -1);
        Due.is("one alone can't sit", Due.told("house lines 1;person 9;").passed(0, 0), -1);
        Due.is("they aren't opposites", Due.told("house lines 1;person 9;person 9;").passed(0, 0), -1);
    }

    /** Two are left at least, so eight go at most. */
    private static void passedByEight() {
        OppositeHouse x = Due.told("house lines 1;" + "person 0;".repeat(10) + "opposes : 1 = 1;ayes : who < bill;");
        long[] many = {-1, -1, 8, 6, 4, 2, 0, 0, 0, 0};
        // With three ayes one other may stay, with four two, with five three: 9 first, as the least set is without it.
        long[] which = {-1, -1, 0b1111111100, 0b0111111000, 0b0011110000, 0b0001100000, 0, 0, 0, 0};
        for (int bill = 0; bill < 10; bill++) {
            Due.is("how many, bill " + bill, x.passed(bill, 0), many[bill]);
            Due.is("which, bill " + bill, x.passed(bill, 1), which[bill]);
        }
        x = Due.told("house lines 1;" + "person 0;".repeat(10) + "opposes : 1 = 1;ayes : who > 7;");
        Due.is("0 to 7", x.passed(0, 1), 255);
    }

    /** "of these": of those in town. */
    private static void passedOfThoseInTown() {
        OppositeHouse x = Due.told("house lines 1;person 9;person 0;person 9 in 5 to 6;person 0;ayes : who < 2;");
        Due.is("3 goes", x.passed(0, 1), 8);
        x.send(3);
        Due.is("none goes", x.passed(0, 1), 0);
        x.days(5);
        Due.is("2 goes", x.passed(0, 1), 4);
        x.send(0);
        Due.is("never", x.passed(0, 1), -1);
    }

    /** "of like ones the least set as bits". */
    private static void leastOfLikeOnes() {
        OppositeHouse x = Due.told("house lines 1;" + "person 0;".repeat(9) + "opposes : 1 = 1;ayes : 1 = 1;");
        Due.is("of nine one goes: 0", x.passed(0, 1), 1);
        Due.is("one", x.passed(0, 0), 1);
        x.send(0);
        Due.is("none", x.passed(0, 0), 0);
        x.send(1);
        Due.is("of seven one goes: 2", x.passed(0, 1), 4);
        x = Due.told("house lines 1;person 9;" + "person 0;".repeat(9) + "ayes : 1 = 1;");
        Due.is("0 and 9 stay, as the least set is without 9", x.passed(0, 1), 510);
    }

    /** Promise 33: "The first BILL that PASSES by as few SENT AWAY as any does." */
    private static void easiestOfAll() {
        OppositeHouse x = Due.told(MIRROR);
        Due.is("6 to 9 by none", x.easiest(), 6);
        x = Due.told("house lines 1;person 4;person 5;ayes : bill = 9;");
        Due.is("9 alone", x.easiest(), 9);
        x = Due.told("house lines 1;person 4;person 5;ayes : bill = 0;");
        Due.is("0 alone", x.easiest(), 0);
        x = Due.told("house lines 1;" + "person 0;".repeat(10) + "opposes : 1 = 1;ayes : who < 6 - bill;");
        Due.is("0 by none", x.easiest(), 0);
        x = Due.told("house lines 1;" + "person 0;".repeat(10) + "opposes : 1 = 1;ayes : who < bill - 4;");
        Due.is("9 by two", x.easiest(), 9);
        x = Due.told("house lines 1;" + "person 0;".repeat(10) + "opposes : 1 = 1;ayes : who < 2 and bill = 3;");
        Due.is("3 by eight", x.easiest(), 3);
    }

    /** "NONE: none can." */
    private static void easiestOfNone() {
        Due.is("without people", new OppositeHouse().easiest(), -1);
        Due.is("nobody says aye", Due.told("house lines 1;person 4;person 5;ayes : 1 = 2;").easiest(), -1);
        Due.is("nobody sits", Due.told("house lines 1;person 9;person 9;").easiest(), -1);
        OppositeHouse x = Due.told("house lines 1;person 4;person 5;ayes : 1 = 1;");
        x.send(1);
        Due.is("one alone", x.easiest(), -1);
    }
}
