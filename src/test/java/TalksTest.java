/** Promises 25 to 29: covers, the laundress, the fewest talks till two are opposites, till all sit. */
final class TalksTest {
    private TalksTest() {
    }

    public static void main(String[] args) {
        cover();
        coverFewestAndLeast();
        laundress();
        talks();
        talksOfOneNotInTown();
        talksByLaw();
        talkByFirstOfLike();
        talksAreFoundAnew();
        word();
        wordOfTheFirst();
        Due.end();
    }

    private static void cover() {
        OppositeHouse x = Due.told("house lines 1;person 9;person 0;person 4;person 5;person 0 in 3 to 4;person 7;");
        Due.is("of nobody", x.cover(0, 0), 0);
        Due.is("of nobody", x.cover(0, 1), 0);
        Due.is("1 for 0", x.cover(1, 1), 2);
        Due.is("0 for one who isn't in town", x.cover(16, 1), 1);
        Due.is("0 for 1 and 4", x.cover(18, 0), 1);
        Due.is("not of the set", x.cover(3, 1), -1);
        Due.is("none for 5", x.cover(32, 0), -1);
        Due.is("none for 5", x.cover(33, 1), -1);
        Due.is("0 and 2 for 1 and 3", x.cover(10, 1), 5);
        Due.is("two", x.cover(10, 0), 2);
        x.send(1);
        Due.is("none in town for 0", x.cover(1, 1), -1);
        x.days(3);
        Due.is("4 for 0", x.cover(1, 1), 16);
        Due.is("what ahead of the set", x.cover(64, 2), -2);
        Due.is("what below 0", x.cover(0, -1), -2);
        Due.is("the set", x.cover(64, 1), -3);
        Due.is("the set below 0", x.cover(-1, 0), -3);
    }

    private static void coverFewestAndLeast() {
        // 0 opposes 4, 1 opposes 5, 2 and 3 oppose both.
        OppositeHouse x = Due.told("house lines 1;" + "person 0;".repeat(6)
                + "opposes : other = who + 4 and who < 2 or who > 1 and who < 4 and other > 3;");
        Due.is("one ahead of two, the least of like ones", x.cover(48, 1), 4);
        x.send(2);
        Due.is("3", x.cover(48, 1), 8);
        x.send(3);
        Due.is("0 and 1", x.cover(48, 1), 3);
        x.send(0);
        Due.is("none", x.cover(48, 1), -1);
        Due.is("1 for 5", x.cover(32, 1), 2);
    }

    private static void laundress() {
        OppositeHouse x = Due.told("house lines 1;person 9;person 0;person 0;person 4;person 9;person 5 in 9 to 9;");
        Due.is("0, the first who opposes 1 and 2", x.laundress(6), 0);
        Due.is("4, as 0 is of the set", x.laundress(7), 4);
        Due.is("1 opposes 0 and 4", x.laundress(17), 1);
        Due.is("5 isn't in town; nobody opposes 3: the first", x.laundress(8), 0);
        Due.is("of nobody: the first", x.laundress(0), 0);
        Due.is("3 opposes 5, who isn't in town", x.laundress(32), 3);
        Due.is("3 is left", x.laundress(23), 3);
        Due.is("nobody else is in town", x.laundress(31), -1);
        Due.is("the set", x.laundress(64), -3);
        Due.is("the set below 0", x.laundress(-1), -3);
        x.send(0);
        Due.is("0 is away", x.laundress(6), 4);
    }

    private static void talks() {
        OppositeHouse x = Due.told("house lines 2;person 4 0;person 9 9;person 0 3;person 2 0;");
        Due.is("already", x.talks(1, 2), 0);
        Due.is("already: no talk", x.talkBy(1, 2, 0), -1);
        Due.is("0 to 9 by five talks with 1", x.talks(0, 2), 5);
        for (int i = 0; i < 5; i++) {
            Due.is("whom 0 talks with", x.talkBy(0, 2, i), 1);
        }
        Due.is("not so many", x.talkBy(0, 2, 5), -1);
        Due.is("0 to 7 by three talks with 1", x.talks(0, 3), 3);
        Due.is("1 down to 5: never by itself below", x.talks(1, 0), 4);
        Due.is("1 talks with 0 first", x.talkBy(1, 0, 0), 0);
        Due.is("both one", x.talks(1, 1), -2);
        Due.is("no such one", x.talks(4, 1), -2);
        Due.is("no such one", x.talks(1, 4), -2);
        Due.is("below 0", x.talks(-1, 1), -2);
        Due.is("both one", x.talkBy(1, 1, -1), -2);
        Due.is("no such one", x.talkBy(0, 4, 0), -2);
        Due.is("i below 0", x.talkBy(0, 2, -1), -3);
        Due.is("far behind", x.talkBy(0, 2, Integer.MAX_VALUE), -1);
        Due.is("nothing is changed", x.person(0, 0), 4);
        x.send(1);
        Due.is("never without 1", x.talks(0, 2), -1);
        Due.is("never: no talk", x.talkBy(0, 2, 0), -1);
        Due.is("never, i below 0", x.talkBy(0, 2, -5), -3);
        Due.is("with one who is away: by whom is in town", x.talks(3, 1), 2);
        Due.is("3 talks with 2", x.talkBy(3, 1, 0), 2);
    }

    private static void talksOfOneNotInTown() {
        OppositeHouse x = Due.told("house lines 1;person 4 in 5 to 6;person 5;person 9;person 0 in 7 to 8;");
        Due.is("already, wherever it is", x.talks(0, 1), 0);
        Due.is("not in town: never", x.talks(0, 2), -1);
        Due.is("till it opposes one not in town", x.talks(1, 3), 4);
        Due.is("the other way: never", x.talks(3, 1), -1);
        x = Due.told("house lines 1;person 3;");
        Due.is("nobody to talk with", x.talks(0, 0), -2);
        x = Due.told("house lines 1;person 3;person 3;");
        Due.is("talks that change nothing", x.talks(0, 1), -1);
    }

    private static void talksByLaw() {
        OppositeHouse x = Due.told("house lines 3;person 0 0 0;person 0 0 0;person 0 0 0;"
                + "opposes : ease = 3 and faith = 2 and war = 1 and who = 0;"
                + "sways : (2 - other) * (line - 1) * (line - 2) + (other - 1) * line * (2 - line);");
        // A talk with 1 raises ease alone, a talk with 2 faith alone; war stays 0.
        Due.is("war never grows", x.talks(0, 1), -1);
        x = Due.told("house lines 3;person 0 0 0;person 0 0 0;person 0 0 0;"
                + "opposes : ease = 3 and faith = 2 and who = 0;"
                + "sways : (2 - other) * (line - 1) * (line - 2) + (other - 1) * line * (2 - line);");
        Due.is("three and two", x.talks(0, 2), 5);
        long[] by = new long[5];
        for (int i = 0; i < 5; i++) {
            by[i] = x.talkBy(0, 2, i);
        }
        Due.all("the first by whom", by, 1, 1, 1, 2, 2);
        Due.is("the other way: 1 never has it", x.talks(1, 2), -1);
        x = Due.told("house lines 1;person 0;person 0;opposes : ease = 9;sways : 1 - 2 * (day - 3);day 3;");
        Due.is("nine on day 3", x.talks(0, 1), 9);
        x.days(1);
        Due.is("never on day 4", x.talks(0, 1), -1);
    }

    private static void talkByFirstOfLike() {
        OppositeHouse x = Due.told("house lines 1;person 2;person 5;person 6;person 9;person 3;");
        // 2 to 6 (with ease 3 its opposite): 1 raises to 5 alone, 2 or 3 must do the last.
        Due.is("four talks", x.talks(0, 4), 4);
        Due.is("1 first", x.talkBy(0, 4, 0), 1);
        Due.is("1 again", x.talkBy(0, 4, 1), 1);
        Due.is("1 once more", x.talkBy(0, 4, 2), 1);
        Due.is("2 at last", x.talkBy(0, 4, 3), 2);
    }

    private static void talksAreFoundAnew() {
        OppositeHouse x = Due.told("house lines 1;person 4;person 9;person 0;");
        Due.is("five", x.talks(0, 2), 5);
        x.talk(0, 1);
        Due.is("four behind a talk", x.talks(0, 2), 4);
        x.undo(1);
        Due.is("five again", x.talks(0, 2), 5);
        x.image(0);
        x.send(1);
        Due.is("never", x.talks(0, 2), -1);
        x.restore(0);
        Due.is("five again", x.talks(0, 2), 5);
        Due.tell(x, "house lines 1;person 7;person 9;person 0;");
        Due.is("two in another house", x.talks(0, 2), 2);
        x.year(0, 1);
        Due.is("two a day later", x.talks(0, 2), 2);
        Due.lay(x, 0, 1);
        x.perform(0);
        Due.is("one behind a deed", x.talks(0, 2), 1);
    }

    private static void word() {
        OppositeHouse x = Due.told("house lines 1;person 4;person 6;");
        // 0 comes nearer to 1: 5 and 6; 1 nearer to 0: 4 and 5.
        Due.is("1 with 0", x.word(), 10);
        Due.is("nothing is changed", x.person(1, 0), 6);
        x.talk(1, 0);
        Due.is("they sit already", x.word(), -1);
        x = Due.told("house lines 1;person 4;person 7;");
        Due.is("none does", x.word(), -1);
        x = Due.told("house lines 1;person 4;person 6;person 6;");
        Due.is("three never sit", x.word(), -1);
        x.send(2);
        Due.is("those in town", x.word(), 10);
    }

    private static void wordOfTheFirst() {
        OppositeHouse x = Due.told("house lines 1;person 3;person 5;person 1;person 8;");
        // 2 and 3 are opposites already; 0 comes nearer to 1 by 4, which opposes 5.
        Due.is("0 with 1", x.word(), 1);
        x = Due.told("house lines 1;person 3;person 5;person 9;person 0;");
        Due.is("0 with 1, ahead of 0 with 2", x.word(), 1);
        x = Due.told("house lines 1;person 5;person 5;person 9;person 0;");
        Due.is("0 with 3, as with 1 it stays, with 2 it grows", x.word(), 3);
        // 0 and 2 are opposites, which a talk of 0 would undo.
        x = Due.told("house lines 1;person 4;person 7;person 5;person 3;");
        Due.is("1 down to 6 by a talk with 0", x.word(), 10);
    }
}
