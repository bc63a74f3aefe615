/** The edges of turning, of the word that lets all sit, of lists (Terms 3, promises 27 to 29, 41). */
final class TalkEdgesTest {
    /** In town are 0, 7, 8, 9: a talk with 7 raises ease alone, one with 8 faith alone, one with 9 war alone. */
    private static final String THREE_WAYS = "house lines 3;person 0 0 0;" + "person 0 0 0 in 9 to 9;".repeat(6)
            + "person 0 0 0;".repeat(3) + "opposes : ease = 9 and faith = 9 and war = 9 and who = 0;"
            + "sways : (other - 5 - line) * (other - 6 - line) * (other - 8 - line) * (other - 9 - line);";

    private TalkEdgesTest() {
    }

    public static void main(String[] args) {
        whoTurns();
        opposedAlready();
        oneNotInTown();
        toldOneNotInTown();
        withTheToldOne();
        never();
        manyTalks();
        talksThroughAllViews();
        firstByWhom();
        placesOfTalkBy();
        today();
        wordOfAllTalks();
        wordOfNone();
        wordOfThoseInTown();
        listsAsFarAsThereArePlaces();
        listsOfEachSort();
        listsRefused();
        Due.end();
    }

    /** "-2: PEOPLE, both one". */
    private static void whoTurns() {
        OppositeHouse x = Due.told("house lines 1;" + "person 4;".repeat(9) + "person 5;");
        for (int p = -1; p <= 10; p++) {
            for (int q = -1; q <= 10; q++) {
                boolean such = p >= 0 && p < 10 && q >= 0 && q < 10 && p != q;
                int due = !such ? -2 : p == 9 || q == 9 ? 0 : 1;
                Due.is("talks(" + p + ", " + q + ")", x.talks(p, q), due);
                if (p == 0 || p == 10) {
                    Due.is("talkBy(" + p + ", " + q + ", 0)", x.talkBy(p, q, 0), due == 1 ? 9 : due == 0 ? -1 : -2);
                }
            }
        }
        Due.is("far too great", x.talks(Integer.MAX_VALUE, 0), -2);
        Due.is("far too small", x.talks(0, Integer.MIN_VALUE), -2);
    }

    /** "(0, if they are, wherever it is)". */
    private static void opposedAlready() {
        OppositeHouse x = Due.told("house lines 1;person 4 in 5 to 6;person 5;person 5 in 5 to 6;");
        Due.is("not in town", x.talks(0, 1), 0);
        Due.is("neither in town", x.talks(0, 2), 0);
        Due.is("no talk", x.talkBy(0, 1, 0), -1);
        x.send(0);
        Due.is("away", x.talks(0, 1), 0);
        x.numbers(0, 0, 3);
        Due.is("lists none", x.lists(0, 0, 1), 0);
    }

    /** "one, IN TOWN, TALKS with others IN TOWN". */
    private static void oneNotInTown() {
        OppositeHouse x = Due.told("house lines 1;person 3 in 5 to 6;person 9;person 5;");
        Due.is("not in town", x.talks(0, 2), -1);
        x.days(5);
        Due.is("in town", x.talks(0, 2), 1);
        x.send(1);
        Due.is("none else who could raise it but 2", x.talks(0, 2), 1);
        Due.is("by 2", x.talkBy(0, 2, 0), 2);
        x.send(2);
        Due.is("nobody to talk with", x.talks(0, 2), -1);
        x.call(2);
        x.send(0);
        Due.is("away", x.talks(0, 2), -1);
    }

    /** "a told one (IN TOWN or not)". */
    private static void toldOneNotInTown() {
        OppositeHouse x = Due.told("house lines 1;person 3;person 9;person 5 in 5 to 6;");
        Due.is("till it opposes one not in town", x.talks(0, 2), 1);
        Due.is("by 1, as 2 isn't in town", x.talkBy(0, 2, 0), 1);
        x.days(5);
        Due.is("by 1, ahead of 2", x.talkBy(0, 2, 0), 1);
        x.send(2);
        Due.is("till it opposes one who is away", x.talks(0, 2), 1);
    }

    /** The told one is one of the others, if it is in town. */
    private static void withTheToldOne() {
        OppositeHouse x = Due.told("house lines 1;person 2;person 5;");
        Due.is("2 to 4 by 1 itself", x.talks(0, 1), 2);
        Due.is("5 to 7 never, by 0 it falls: 4, 3, 2", x.talks(1, 0), -1);
        Due.is("its views stay as they are", x.person(1, 0), 5);
    }

    /** "NONE: never". */
    private static void never() {
        OppositeHouse x = Due.told("house lines 1;person 2;person 2;");
        Due.is("none that changes a view", x.talks(0, 1), -1);
        Due.is("no talk", x.talkBy(0, 1, 0), -1);
        x = Due.told("house lines 3;person 2 2 2;person 2 2 2;sways : 1;opposes : 1 = 2;");
        Due.is("views change, but none are opposites", x.talks(0, 1), -1);
        x = Due.told("house lines 1;person 9;person 2;sways : 1;opposes : ease = 0 and who = 0;");
        Due.is("never below 9", x.talks(0, 1), -1);
        x = Due.told("house lines 1;person 0;person 0;opposes : who = 1 and ease = 3;sways : 1 - (who - other) * (who - other);");
        Due.is("by others alone, not by itself", x.talks(1, 0), -1);
        Due.is("i below 0 ahead of never", x.talkBy(0, 1, -1), -3);
    }

    /** The fewest of many. */
    private static void manyTalks() {
        OppositeHouse x = Due.told(THREE_WAYS);
        Due.is("nine of each", x.talks(0, 1), 27);
        for (int i = 0; i < 27; i++) {
            Due.is("talkBy(0, 1, " + i + ")", x.talkBy(0, 1, i), 7 + i / 9);
        }
        Due.is("the 28th", x.talkBy(0, 1, 27), -1);
        x.talk(0, 9);
        Due.is("one less", x.talks(0, 1), 26);
        x.send(8);
        Due.is("never without 8", x.talks(0, 1), -1);
    }

    private static String product(String name, int from, int to, int step) {
        StringBuilder text = new StringBuilder();
        for (int i = from; i <= to; i += step) {
            text.append(text.length() == 0 ? "" : "*").append("(").append(name).append("-").append(i).append(")");
        }
        return text.toString();
    }

    /** A talk goes through all of a hundred views, one behind the other, to and fro. */
    private static void talksThroughAllViews() {
        // Below 0 if faith is even, above 0 if it is odd, and by 999 * 999 as far as it is kept.
        String odd = product("2*faith", 1, 17, 2) + "*999*999";
        String last = "ease*" + product("ease", 1, 8, 1);
        String first = "(0-1)*" + product("ease", 1, 9, 1);
        String most = "999*999*999";
        OppositeHouse x = Due.told("house lines 2;person 0 0;person 5 5;opposes:who=0 and ease=0 and faith=9;"
                + "sways:(line-1)*" + odd + "+line*(" + last + "*(" + most + "-" + odd + ")+" + first + "*(" + most + "+" + odd + "));");
        Due.is("99 talks", x.talks(0, 1), 99);
        Due.is("the last", x.talkBy(0, 1, 98), 1);
        Due.is("no more", x.talkBy(0, 1, 99), -1);
        x.numbers(0, 0, 40);
        Due.is("forty of them", x.lists(0, 0, 1), 40);
        Due.is("done", x.perform(0), 40);
        Due.is("ease", x.person(0, 0), 0);
        Due.is("faith", x.person(0, 1), 4);
        Due.is("59 are left", x.talks(0, 1), 59);
        Due.is("forty again", x.lists(0, 0, 1), 40);
        Due.is("done", x.perform(0), 40);
        Due.is("the rest", x.lists(0, 0, 1), 19);
        Due.is("and behind them what was there: they can be", x.judge(0, 0), -1);
    }

    /** "of like ones the first by whom it TALKS with, one behind the other". */
    private static void firstByWhom() {
        OppositeHouse x = Due.told("house lines 1;person 5 ;person 9;person 3;person 4;person 9;person 1;");
        Due.is("5 up to 8 (with 1)", x.talks(0, 5), 3);
        Due.is("by 1, not 4", x.talkBy(0, 5, 0), 1);
        Due.is("by 1, not 4", x.talkBy(0, 5, 2), 1);
        x.send(1);
        Due.is("by 4", x.talkBy(0, 5, 0), 4);
        // With 1 both grow, with 2 ease alone, with 3 faith alone; 0 needs 2 of ease and 1 of faith.
        x = Due.told("house lines 2;person 0 0;person 5 5;person 5 0;person 0 5;opposes : who = 0 and ease = 2 and faith = 1;"
                + "sways : (2 - other) * (3 - other) + (other - 1) * (3 - other) * (1 - line) + (other - 1) * (other - 2) * line;");
        Due.is("two talks", x.talks(0, 1), 2);
        Due.is("1 first", x.talkBy(0, 1, 0), 1);
        Due.is("2 behind it", x.talkBy(0, 1, 1), 2);
    }

    /** "NONE: not so many, never; -2 likewise; -3: i is below 0". */
    private static void placesOfTalkBy() {
        OppositeHouse x = Due.told("house lines 1;person 2;person 5;");
        Due.is("0", x.talkBy(0, 1, 0), 1);
        Due.is("1, the last", x.talkBy(0, 1, 1), 1);
        Due.is("2", x.talkBy(0, 1, 2), -1);
        Due.is("1000", x.talkBy(0, 1, 1000), -1);
        Due.is("the greatest", x.talkBy(0, 1, Integer.MAX_VALUE), -1);
        Due.is("-1", x.talkBy(0, 1, -1), -3);
        Due.is("the least", x.talkBy(0, 1, Integer.MIN_VALUE), -3);
        Due.is("people ahead of i", x.talkBy(0, 0, -1), -2);
        Due.is("people ahead of i", x.talkBy(2, 0, -1), -2);
        Due.is("people ahead of i", x.talkBy(0, -1, -1), -2);
        Due.is("people", x.talkBy(0, 2, 0), -2);
    }

    /** "today": laws see the day as it is. */
    private static void today() {
        OppositeHouse x = Due.told("house lines 1;person 0;person 0;opposes : who = 0 and ease = 3 + day;sways : 6 - day;day 5;");
        Due.is("eight on a day of 5", x.talks(0, 1), 8);
        x.days(1);
        Due.is("on a day of 6 nothing sways", x.talks(0, 1), -1);
        x.days(1);
        Due.is("three on a day of 0", x.talks(0, 1), 3);
    }

    /** Promise 29: "The first TALK (10 times the one, and the other) that alone makes those IN TOWN SIT." */
    private static void wordOfAllTalks() {
        for (int p = 0; p < 10; p++) {
            for (int q = 0; q < 10; q++) {
                if (p != q) {
                    // All are opposites by twos but p, who is it with ease of 1, which a talk with q alone brings.
                    OppositeHouse x = Due.told("house lines 1;" + "person 0;".repeat(10) + "opposes : who + other = 9 and"
                            + " [who = " + p + " and ease = 1 or not who = " + p + " and not other = " + p + "];"
                            + "sways : 1 - (who - " + p + ") * (who - " + p + ") - (other - " + q + ") * (other - " + q + ");");
                    Due.is("word", x.word(), 10 * p + q);
                    Due.is("they don't sit", x.sits(1023), 0);
                }
            }
        }
    }

    /** "NONE: none does, they SIT already." */
    private static void wordOfNone() {
        Due.is("nobody sits already", new OppositeHouse().word(), -1);
        Due.is("one never sits", Due.told("house lines 1;person 4;").word(), -1);
        Due.is("none of ten", Due.told("house lines 1;" + "person 4;".repeat(10)).word(), -1);
        Due.is("they sit already, though a talk does, too", Due.told("house lines 1;person 4;person 5;sways : 0;").word(), -1);
        Due.is("by two talks alone", Due.told("house lines 1;person 4;person 7;").word(), -1);
        Due.is("by one", Due.told("house lines 1;person 4;person 6;").word(), 10);
        Due.is("the first of two", Due.told("house lines 1;person 3;person 7;opposes : ease = 4 or ease = 6;").word(), 1);
        OppositeHouse x = Due.told("house lines 1;person 3;person 7;opposes : ease = 4 or ease = 6;");
        x.word();
        Due.is("it isn't done", x.person(0, 0), 3);
        Due.is("nothing can be undone", x.count(6), 0);
    }

    /** Only those in town talk, and sit. */
    private static void wordOfThoseInTown() {
        OppositeHouse x = Due.told("house lines 1;person 4 in 5 to 6;person 4;person 6;person 6 in 5 to 6;");
        Due.is("2 with 1", x.word(), 21);
        x.send(1);
        Due.is("2 alone", x.word(), -1);
        x.send(2);
        Due.is("nobody sits", x.word(), -1);
        x.days(5);
        Due.is("3 with 0", x.word(), 30);
        x.call(2);
        Due.is("three never sit", x.word(), -1);
        x.call(1);
        Due.is("four: two talks at least", x.word(), -1);
        x.talk(2, 0);
        Due.is("2 has 5 now: 3 with 0", x.word(), 30);
        x.undo(1);
        x.talk(3, 1);
        Due.is("3 has 5 now: 2 with 0", x.word(), 20);
    }

    /** Promise 41: "come into a TRAY, as far as it has places: how many". */
    private static void listsAsFarAsThereArePlaces() {
        OppositeHouse x = Due.told(THREE_WAYS);
        int[] places = {0, 1, 26, 27, 28, 40};
        for (int n : places) {
            x.numbers(1, 1, n);
            for (int i = 0; i < n; i++) {
                x.write(1, i, -1);
            }
            Due.is("into " + n + " places", x.lists(1, 0, 1), Math.min(n, 27));
            Due.is("those behind stay: days", x.judge(1, 3), Math.max(0, n - 27));
            Due.is("all can be", x.judge(1, 0), -1);
        }
        x.numbers(1, 1, 27);
        x.lists(1, 0, 1);
        Due.is("done", x.perform(1), 27);
        Due.is("opposites", x.opposed(0, 1), 1);
        x.write(1, 0, -1);
        Due.is("0 are needed", x.lists(1, 0, 1), 0);
        Due.is("the tray stays", x.judge(1, 3), 1);
    }

    /** Deeds of up to 98 fit into each sort. */
    private static void listsOfEachSort() {
        for (int sort = 0; sort < 4; sort++) {
            OppositeHouse x = Due.told("house lines 1;" + "person 0;".repeat(7) + "person 8;person 9;person 5;");
            x.numbers(sort, sort, 4);
            Due.is("5 up to 9: 97, 97, 97, 98", x.lists(sort, 9, 0), 4);
            Due.is("done", x.perform(sort), 4);
            Due.is("9 of ease", x.person(9, 0), 9);
            Due.is("opposites", x.opposed(9, 0), 1);
        }
    }

    /** "-2: the TRAY, PEOPLE, both one; -6; -5: never", the first of them ahead. */
    private static void listsRefused() {
        OppositeHouse x = Due.told("house lines 1;person 2;person 2;");
        Due.is("tray -1", x.lists(-1, 0, 1), -2);
        Due.is("tray 4", x.lists(4, 0, 1), -2);
        Due.is("both one, the tray missing", x.lists(0, 1, 1), -2);
        Due.is("no such one, the tray missing", x.lists(0, 2, 1), -2);
        Due.is("no such other one, the tray missing", x.lists(0, 1, 2), -2);
        Due.is("below 0", x.lists(0, -1, 1), -2);
        Due.is("missing, and never", x.lists(3, 0, 1), -6);
        x.numbers(3, 0, 0);
        Due.is("never, without places", x.lists(3, 0, 1), -5);
        x.numbers(3, 0, 1);
        Due.is("never", x.lists(3, 0, 1), -5);
        Due.is("both one", x.lists(3, 0, 0), -2);
        Due.is("no such one", x.lists(3, 2, 0), -2);
    }
}
