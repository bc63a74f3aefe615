/** The edges of deeds (Terms 2 and 3, promises 9 to 16): why a deed can't be, what can be undone, trays of deeds, years. */
final class DeedEdgesTest {
    private static final String TEN = "house lines 1;" + "person 4;".repeat(9) + "person 5;";
    /** Of ten people 3 isn't in town by its days. */
    private static final String THREE_LATE = "house lines 1;" + "person 4;".repeat(3) + "person 5 in 50 to 60;"
            + "person 4;".repeat(5) + "person 6;";

    private DeedEdgesTest() {
    }

    public static void main(String[] args) {
        whoCanTalk();
        talkAnswersAllPeople();
        sendAll();
        callAll();
        sentByDays();
        boundsOfDays();
        townOfDays();
        whatIsUndone();
        tenCanBeUndone();
        eldestAreForgotten();
        boundsOfUndo();
        whatIsNotUndone();
        callsThatDidNone();
        numbersOfDeeds();
        numbersOfDeedsOfFewer();
        numbersBeyondBits();
        emptyAndFullTrays();
        judgedTillOneCanNot();
        performedTillOneCanNot();
        boundsOfYear();
        yearsOfOne();
        yearsWrapAround();
        Due.end();
    }

    /** "both IN TOWN"; "Why not: 1 no such PERSON, number, both one; 2 .. one isn't IN TOWN (to TALK)". */
    private static void whoCanTalk() {
        OppositeHouse x = Due.told(THREE_LATE);
        x.send(5);
        for (int p = -1; p <= 10; p++) {
            for (int q = -1; q <= 10; q++) {
                boolean such = p >= 0 && p < 10 && q >= 0 && q < 10 && p != q;
                boolean here = p != 3 && q != 3 && p != 5 && q != 5;
                int got = x.talk(p, q);
                Due.is("talk(" + p + ", " + q + ")", got, !such ? -11 : !here ? -12 : x.opposites(p));
            }
        }
    }

    /** Promise 9: "the OPPOSITES of the one then, as bits": of all people, in town or not. */
    private static void talkAnswersAllPeople() {
        OppositeHouse x = Due.told("house lines 1;person 3;person 9;person 5 in 7 to 8;" + "person 0;".repeat(6) + "person 5;");
        x.send(9);
        Due.is("4 opposes 5: 2, who comes later, and 9, who is away", x.talk(0, 1), 516);
        Due.is("5 opposes 4: nobody", x.talk(0, 1), 0);
    }

    /** Promise 10: "how many are AWAY then. -11, -12". */
    private static void sendAll() {
        OppositeHouse x = Due.told(TEN);
        Due.is("-1", x.send(-1), -11);
        Due.is("10", x.send(10), -11);
        for (int p = 0; p < 10; p++) {
            Due.is("send(" + p + ")", x.send(p), p + 1);
            Due.is("again", x.send(p), -12);
        }
        Due.is("all are away", x.count(3), 1023);
        Due.is("nobody is in town", x.count(2), 0);
        Due.is("10", x.send(10), -11);
        Due.is("they sit", x.sits(x.count(2)), 1);
    }

    /** Promise 11: "how many are AWAY then. -11, -12". */
    private static void callAll() {
        OppositeHouse x = Due.told(TEN);
        Due.is("nobody is away", x.call(9), -12);
        for (int p = 0; p < 10; p++) {
            x.send(p);
        }
        Due.is("-1", x.call(-1), -11);
        Due.is("10", x.call(10), -11);
        for (int p = 9; p >= 0; p--) {
            Due.is("call(" + p + ")", x.call(p), p);
            Due.is("again", x.call(p), -12);
        }
        Due.is("nobody is away", x.count(3), 0);
        Due.is("all are in town", x.count(2), 1023);
    }

    /** "One is IN TOWN on a DAY, if it is told so and isn't AWAY": who isn't in town can be sent, and called. */
    private static void sentByDays() {
        OppositeHouse x = Due.told("house lines 1;person 1 in 2 to 3;");
        Due.is("not in town, not away", x.person(0, 7) + x.person(0, 8), 0);
        Due.is("call", x.call(0), -12);
        Due.is("send", x.send(0), 1);
        Due.is("on its days it is away still", x.days(2), 0);
        Due.is("call", x.call(0), 0);
        Due.is("it is in town", x.count(2), 1);
    }

    /** Promise 12: "n DAYS (1 to 99)". */
    private static void boundsOfDays() {
        OppositeHouse x = Due.told(TEN);
        Due.is("0", x.days(0), -3);
        Due.is("-1", x.days(-1), -3);
        Due.is("100", x.days(100), -3);
        Due.is("far too many", x.days(Integer.MAX_VALUE), -3);
        Due.is("far too few", x.days(Integer.MIN_VALUE), -3);
        Due.is("no day went by", x.count(4), 0);
        Due.is("nothing can be undone", x.count(6), 0);
        Due.is("1", x.days(1), 1023);
        Due.is("day 1", x.count(4), 1);
        Due.is("99", x.days(99), 1023);
        Due.is("day 100", x.count(4), 100);
    }

    /** "who is IN TOWN then, as bits": from its first day to its last one. */
    private static void townOfDays() {
        OppositeHouse x = Due.told("house lines 1;" + "person 1;".repeat(9) + "person 1 in 3 to 4;");
        Due.is("day 2", x.days(2), 511);
        Due.is("day 3", x.days(1), 1023);
        Due.is("day 4", x.days(1), 1023);
        Due.is("day 5", x.days(1), 511);
    }

    /** "Calls that did some can be UNDONE each as a whole, the latest first: DAY, VIEWS, who is AWAY". */
    private static void whatIsUndone() {
        OppositeHouse x = Due.told("house lines 3;" + "person 1 2 3;".repeat(9) + "person 9 9 9;day 5;");
        x.talk(8, 9);
        x.send(9);
        x.days(3);
        x.call(9);
        Due.lay(x, 0, 89, 100, -1);
        Due.is("performed", x.perform(0), 3);
        int year = x.year(7, 40);
        Due.isTrue("the year did some", year > 0);
        long[] left = {5, 4, 3, 2, 1, 0};
        long[] away = {1, 0, 512, 512, 0, 0};
        long[] day = {9, 8, 8, 5, 5, 5};
        long[] ease = {3, 2, 2, 2, 2, 1};
        for (int i = 0; i < 6; i++) {
            Due.is("undo", x.undo(1), left[i]);
            Due.is("how many can be", x.count(6), left[i]);
            Due.is("away", x.count(3), away[i]);
            Due.is("day", x.count(4), day[i]);
            Due.is("ease of 8", x.person(8, 0), ease[i]);
            Due.is("war of 8", x.person(8, 2), ease[i] + 2);
            Due.is("of another one", x.person(0, 0), 1);
        }
        Due.is("no more", x.undo(1), -3);
    }

    /** "10 at most". */
    private static void tenCanBeUndone() {
        OppositeHouse x = Due.told(TEN);
        for (int i = 1; i <= 10; i++) {
            x.days(1);
            Due.is("how many can be", x.count(6), i);
        }
        Due.is("all ten at once", x.undo(10), 0);
        Due.is("day", x.count(4), 0);
        for (int i = 1; i <= 10; i++) {
            x.days(1);
        }
        for (int i = 9; i >= 0; i--) {
            Due.is("one by one", x.undo(1), i);
            Due.is("day", x.count(4), i);
        }
    }

    /** "(eldest are forgotten)". */
    private static void eldestAreForgotten() {
        OppositeHouse x = Due.told(TEN);
        for (int i = 0; i < 11; i++) {
            x.send(i % 10);
            x.call(i % 10);
            x.days(1);
        }
        Due.is("ten of 33", x.count(6), 10);
        Due.is("nine of them", x.undo(9), 1);
        Due.is("day", x.count(4), 8);
        Due.is("the tenth", x.undo(1), 0);
        Due.is("day", x.count(4), 7);
        Due.is("the eleventh is forgotten", x.undo(1), -3);
        x.days(50);
        x.days(40);
        Due.is("anew", x.count(6), 2);
        Due.is("anew", x.undo(1), 1);
        Due.is("day", x.count(4), 57);
    }

    /** Promise 13: "n calls (1 to 10) .. -3: n, more than can be". */
    private static void boundsOfUndo() {
        OppositeHouse x = Due.told(TEN);
        Due.is("1 of none", x.undo(1), -3);
        Due.is("0 of none", x.undo(0), -3);
        x.days(1);
        x.days(1);
        Due.is("0", x.undo(0), -3);
        Due.is("-1", x.undo(-1), -3);
        Due.is("far below", x.undo(Integer.MIN_VALUE), -3);
        Due.is("3 of 2", x.undo(3), -3);
        Due.is("11 of 2", x.undo(11), -3);
        Due.is("day", x.count(4), 2);
        Due.is("2 of 2", x.undo(2), 0);
        for (int i = 0; i < 12; i++) {
            x.days(1);
        }
        Due.is("11 of 10", x.undo(11), -3);
        Due.is("12 of 10", x.undo(12), -3);
        Due.is("10 of 10", x.undo(10), 0);
        Due.is("day", x.count(4), 2);
    }

    /** Only day, views, who is away: tape, trays, images stay. */
    private static void whatIsNotUndone() {
        OppositeHouse x = Due.told(TEN);
        x.days(1);
        x.feed(0, 0, 0, 0, 0);
        Due.lay(x, 2, -1, -1, -1);
        x.image(1);
        Due.is("undo", x.undo(1), 0);
        Due.is("the tape stays", x.count(7), 20);
        Due.is("the tray stays", x.judge(2, 3), 3);
        Due.is("the image stays", x.restore(1), 0);
        Due.is("day of the image", x.count(4), 1);
    }

    /** A call that did none can't be undone, and lets none be forgotten. */
    private static void callsThatDidNone() {
        OppositeHouse x = Due.told(TEN);
        for (int i = 0; i < 10; i++) {
            x.days(1);
        }
        Due.lay(x, 0, 0, -1);
        Due.lay(x, 1);
        Due.is("no deed can be", x.perform(0), 0);
        Due.is("there are no deeds", x.perform(1), 0);
        Due.is("refused", x.talk(0, 0), -11);
        Due.is("refused", x.call(0), -12);
        Due.is("refused", x.days(100), -3);
        int none = seedOf(3, 0);
        Due.is("a year in which nobody can be called back", x.year(none, 1), 0);
        Due.is("ten can be undone", x.undo(10), 0);
        Due.is("day", x.count(4), 0);
        x = Due.told("house lines 1;person 4;person 4;");
        x.talk(0, 1);
        Due.is("a talk that leaves all as it was did some", x.count(6), 1);
    }

    /** What stands in a tray of one number, judged: why. */
    private static long why(OppositeHouse x, long v) {
        x.write(3, 0, v);
        return x.judge(3, 1);
    }

    /** "0 to 99: v by 10 TALKS with v modulo 10; 100 to 109 ..; 200 to 209 ..; NONE: a DAY". */
    private static void numbersOfDeeds() {
        for (int v = -5; v <= 220; v++) {
            OppositeHouse x = Due.told(TEN);
            x.numbers(3, 1, 1);
            boolean talk = v >= 0 && v <= 99 && v / 10 != v % 10;
            boolean send = v >= 100 && v <= 109;
            boolean call = v >= 200 && v <= 209;
            Due.is("all in town: " + v, why(x, v), v == -1 || talk || send ? 0 : call ? 2 : 1);
            Due.is("its place", x.judge(3, 0), v == -1 || talk || send ? -1 : 0);
            for (int p = 0; p < 10; p++) {
                x.send(p);
            }
            Due.is("all away: " + v, why(x, v), v == -1 || call ? 0 : talk || send ? 2 : 1);
            Due.is("performed", x.perform(3), v == -1 || call ? 1 : 0);
            Due.is("away then", x.count(3), call ? 1023 & ~(1 << v - 200) : 1023);
            Due.is("day then", x.count(4), v == -1 ? 1 : 0);
        }
    }

    /** "no such PERSON": the same with nine, with one, with none. */
    private static void numbersOfDeedsOfFewer() {
        for (int people : new int[] {9, 1, 0}) {
            OppositeHouse x = Due.told("house lines 1;" + "person 4;".repeat(people));
            x.numbers(3, 1, 1);
            for (int p = Math.max(0, people - 1); p < 10; p++) {
                boolean such = p < people;
                Due.is("100 and " + p, why(x, 100 + p), such ? 0 : 1);
                Due.is("200 and " + p, why(x, 200 + p), such ? 2 : 1);
                Due.is("0 with " + p, why(x, p), such && p != 0 ? 0 : 1);
                Due.is(p + " with 0", why(x, 10 * p), such && p != 0 ? 0 : 1);
                Due.is(p + " with itself", why(x, 11 * p), 1);
            }
        }
    }

    /** A number is what is there, of all its bits. */
    private static void numbersBeyondBits() {
        OppositeHouse x = Due.told(TEN);
        x.numbers(3, 3, 1);
        long[] none = {Long.MIN_VALUE, Long.MAX_VALUE, 4294967295L, 4294967297L, -4294967297L, 4294967396L, 1L << 40,
            65535, 65536 + 101, 256 + 1, -256 - 1, -2};
        for (long v : none) {
            Due.is("number " + v, why(x, v), 1);
        }
        Due.is("-1", why(x, -1), 0);
        x.numbers(3, 0, 1);
        Due.is("255, cut to 8 bits: a day", why(x, 255), 0);
        Due.is("200, cut to 8 bits, is no number of a deed", why(x, 200), 1);
        Due.is("256 and 1, cut to 8 bits: 0 talks with 1", why(x, 257), 0);
        x.numbers(3, 1, 1);
        Due.is("65535, cut to 16 bits: a day", why(x, 65535), 0);
        x.numbers(3, 2, 1);
        Due.is("4294967295, cut to 32 bits: a day", why(x, 4294967295L), 0);
        Due.is("65535 of 32 bits", why(x, 65535), 1);
    }

    /** "0 to 40 numbers"; promise 14: "the first place that can't be (NONE)", "why (0)". */
    private static void emptyAndFullTrays() {
        OppositeHouse x = Due.told(TEN);
        x.days(3);
        x.numbers(0, 0, 0);
        Due.all("no deeds", new long[] {x.judge(0, 0), x.judge(0, 1), x.judge(0, 2), x.judge(0, 3)}, -1, 0, 0, 3);
        Due.is("none are done", x.perform(0), 0);
        x.numbers(1, 3, 40);
        Due.all("forty talks of 0 with itself", new long[] {x.judge(1, 0), x.judge(1, 1), x.judge(1, 3)}, 0, 1, 3);
        for (int i = 0; i < 40; i++) {
            x.write(1, i, -1);
            Due.is("the first place that can't be", x.judge(1, 0), i == 39 ? -1 : i + 1);
        }
        Due.all("forty days", new long[] {x.judge(1, 0), x.judge(1, 1), x.judge(1, 3)}, -1, 0, 43);
        x.write(1, 39, 0);
        Due.all("the last can't be", new long[] {x.judge(1, 0), x.judge(1, 1), x.judge(1, 3)}, 39, 1, 42);
        Due.is("39 are done", x.perform(1), 39);
        Due.is("day", x.count(4), 42);
        x.write(1, 39, -1);
        Due.is("40 are done", x.perform(1), 40);
        Due.is("day", x.count(4), 82);
    }

    /** Promise 14: "judged as if done", "2: 1 if those IN TOWN SIT then, else 0, 3: DAY then". */
    private static void judgedTillOneCanNot() {
        OppositeHouse x = Due.told("house lines 1;person 3;person 9;person 5;");
        // 0 talks with 1 and has 4; 1 is sent away: 4 and 5 sit. Then one can't be; the rest isn't judged.
        Due.lay(x, 0, 1, 101, -1, 101, -1, 102);
        Due.is("place", x.judge(0, 0), 3);
        Due.is("why", x.judge(0, 1), 2);
        Due.is("0 and 2 sit then", x.judge(0, 2), 1);
        Due.is("day then", x.judge(0, 3), 1);
        Due.lay(x, 0, 1, 101, 100, 102);
        Due.is("nobody sits, too", x.judge(0, 2), 1);
        Due.lay(x, 0, 101, 1, 1);
        Due.is("each as those ahead have left it", x.judge(0, 0), 1);
        Due.is("3 and 5 don't sit", x.judge(0, 2), 0);
        Due.is("nothing was done", x.count(3) + x.count(4) + x.count(6), 0);
        Due.is("views stay", x.person(0, 0), 3);
    }

    /** Promise 15: "They are done, till one can't be: how many." */
    private static void performedTillOneCanNot() {
        OppositeHouse x = Due.told("house lines 1;person 3;person 9;person 5;");
        Due.lay(x, 0, 1, 101, -1, 101, -1, 102);
        Due.is("three", x.perform(0), 3);
        Due.is("the fourth and those behind aren't done", x.count(3), 2);
        Due.is("day", x.count(4), 1);
        Due.is("views", x.person(0, 0), 4);
        Due.is("again: 1 is away", x.perform(0), 0);
        Due.is("one call can be undone", x.count(6), 1);
    }

    /** Promise 16: "so many times (1 to 40)", "-3: how many times". */
    private static void boundsOfYear() {
        OppositeHouse x = Due.told(TEN);
        for (int times : new int[] {0, -1, 41, Integer.MIN_VALUE, Integer.MAX_VALUE}) {
            Due.is("times " + times, x.year(5, times), -3);
        }
        Due.is("no day went by", x.count(4), 0);
        Due.is("nothing can be undone", x.count(6), 0);
        Due.isTrue("once", x.year(5, 1) <= 1);
        Due.isTrue("forty times", x.year(5, 40) > 0);
        OppositeHouse y = new OppositeHouse();
        int days = 0;
        Draws draws = new Draws(5);
        for (int i = 0; i < 40; i++) {
            int kind = draws.next() % 4;
            days += kind == 0 ? 1 : 0;
            for (int more = kind == 0 ? 0 : kind == 1 ? 2 : 1; more > 0; more--) {
                draws.next();
            }
        }
        Due.is("without people just the days of forty", y.year(5, 40), days);
        Due.is("day", y.count(4), days);
    }

    /** A seed by which the first draws are a kind of deed and a person. */
    private static int seedOf(int kind, int p) {
        for (int seed = 0; seed < 100000; seed++) {
            Draws draws = new Draws(seed);
            if (draws.next() % 4 == kind && draws.next() % 10 == p) {
                return seed;
            }
        }
        return 0;
    }

    /** "DRAW modulo 4: 0 a DAY; 1 .. TALKS with ..; 2 .. SENT AWAY; 3 CALLED back; as in a TRAY, if it can be". */
    private static void yearsOfOne() {
        for (int p = 0; p < 10; p++) {
            OppositeHouse x = Due.told(TEN);
            Due.is("a day", x.year(seedOf(0, p), 1), 1);
            Due.is("day", x.count(4), 1);
            int call = seedOf(3, p);
            int send = seedOf(2, p);
            Due.is("not away", x.year(call, 1), 0);
            Due.is("sent", x.year(send, 1), 1);
            Due.is("away", x.count(3), 1 << p);
            Due.is("sent already", x.year(send, 1), 0);
            Due.is("called", x.year(call, 1), 1);
            Due.is("away", x.count(3), 0);
            int talk = seedOf(1, p);
            Draws draws = new Draws(talk);
            draws.next();
            draws.next();
            int q = draws.next() % 10;
            OppositeHouse y = Due.told(TEN);
            Due.is("a talk", x.year(talk, 1), y.talk(p, q) >= 0 ? 1 : 0);
            Due.is("its views", x.person(p, 0), y.person(p, 0));
            Due.is("which can be undone, a day, a send, a call ahead", x.count(6), p == q ? 3 : 4);
        }
    }

    /** "x, an int": the draws wrap around. */
    private static void yearsWrapAround() {
        for (int seed : new int[] {0, 1, -1, Integer.MAX_VALUE, Integer.MIN_VALUE, 1 << 16, -65536}) {
            OppositeHouse x = Due.told(TEN);
            OppositeHouse y = Due.told(TEN);
            Draws draws = new Draws(seed);
            int done = 0;
            for (int i = 0; i < 40; i++) {
                int kind = draws.next() % 4;
                int p = kind == 0 ? 0 : draws.next() % 10;
                int answer = kind == 0 ? y.days(1) : kind == 1 ? y.talk(p, draws.next() % 10) : kind == 2 ? y.send(p) : y.call(p);
                done += answer >= 0 ? 1 : 0;
            }
            Due.is("year of " + seed, x.year(seed, 40), done);
            Due.is("day", x.count(4), y.count(4));
            Due.is("away", x.count(3), y.count(3));
            for (int p = 0; p < 10; p++) {
                Due.is("views", x.person(p, 0), y.person(p, 0));
            }
        }
    }

    /** The draws of a year, by long arithmetic. */
    private static final class Draws {
        private long x;

        Draws(int seed) {
            x = seed & 0xFFFFFFFFL;
        }

        int next() {
            x = (1103515245L * x + 12345L) & 0xFFFFFFFFL;
            return (int) (x >> 16);
        }
    }
}
