/** Promises 9 to 16: talks, people sent away and called back, days, undone; deeds, years. */
final class DeedsTest {
    private DeedsTest() {
    }

    public static void main(String[] args) {
        talkWithoutLaw();
        talkByLaw();
        talkOfAllViewsAsTheyWere();
        talkRefused();
        sendAndCall();
        days();
        undo();
        undoForgetsTheEldest();
        judge();
        judgeWhyNot();
        perform();
        performUndone();
        year();
        yearUndone();
        Due.end();
    }

    private static long[] views(OppositeHouse x, int p) {
        return new long[] {x.person(p, 0), x.person(p, 1), x.person(p, 2)};
    }

    private static void talkWithoutLaw() {
        OppositeHouse x = Due.told("house lines 3;person 4 4 4;person 9 4 0;person 4 1 1;");
        Due.is("nearer: 5, 4, 3; 4 opposes 5 now", x.talk(0, 1), 4);
        Due.all("views then", views(x, 0), 5, 4, 3);
        Due.all("the other one stays", views(x, 1), 9, 4, 0);
        Due.is("again", x.talk(0, 1), 0);
        Due.all("views then", views(x, 0), 6, 4, 2);
        x = Due.told("house lines 1;person 4;person 9;");
        x.talk(0, 1);
        Due.all("views that it hasn't stay 0", views(x, 0), 5, 0, 0);
        x = Due.told("house lines 1;person 4;person 4;person 5;");
        Due.is("a talk that changes nothing", x.talk(0, 1), 4);
        Due.is("it can be undone", x.count(6), 1);
    }

    private static void talkByLaw() {
        OppositeHouse x = Due.told("house lines 3;person 0 5 9;person 9 9 9;sways : 1 - line;");
        x.talk(0, 1);
        Due.all("more, the same, less", views(x, 0), 1, 5, 8);
        x = Due.told("house lines 3;person 0 9 5;person 3 3 3;sways : 900 * (line * 2 - 1);");
        x.talk(0, 1);
        Due.all("0 to 9 always, by one at most", views(x, 0), 0, 9, 6);
        x = Due.told("house lines 2;person 1 1;person 2 2;sways : 1;");
        x.talk(0, 1);
        Due.all("only as many views as there are lines", views(x, 0), 2, 2, 0);
        x = Due.told("house lines 1;person 5;person 7;person 5;sways : other - who - 1 - day + unease - 7;day 8;");
        x.talk(0, 1);
        Due.all("0 - 0 - 1", views(x, 0), 4, 0, 0);
        x.talk(2, 1);
        Due.all("1 - 2 - 1 - 1 + 0", views(x, 2), 4, 0, 0);
    }

    private static void talkOfAllViewsAsTheyWere() {
        OppositeHouse x = Due.told("house lines 3;person 0 0 0;person 1 1 1;sways : unease - ease;");
        x.talk(0, 1);
        Due.all("ease is taken as it was ahead", views(x, 0), 1, 1, 1);
        x = Due.told("house lines 2;person 5 3;person 5 5;sways : faith * line - 2 + (1 - line) * 9;");
        x.talk(0, 1);
        Due.all("each by its line", views(x, 0), 6, 4, 0);
    }

    private static void talkRefused() {
        OppositeHouse x = Due.told("house lines 1;person 1;person 2 in 3 to 4;person 3;");
        Due.is("with itself", x.talk(0, 0), -11);
        Due.is("no such one", x.talk(3, 0), -11);
        Due.is("with no such one", x.talk(0, 3), -11);
        Due.is("below 0", x.talk(-1, 0), -11);
        Due.is("with one below 0", x.talk(1, -1), -11);
        Due.is("with one who isn't in town", x.talk(0, 1), -12);
        Due.is("by one who isn't in town", x.talk(1, 0), -12);
        Due.is("with itself, not in town", x.talk(1, 1), -11);
        x.send(2);
        Due.is("with one who is away", x.talk(0, 2), -12);
        Due.is("refused calls can't be undone", x.count(6), 1);
        Due.is("refused calls change nothing", x.person(0, 0), 1);
        Due.is("great numbers", x.talk(Integer.MAX_VALUE, Integer.MIN_VALUE), -11);
    }

    private static void sendAndCall() {
        OppositeHouse x = Due.told("house lines 1;person 1;person 2 in 3 to 4;person 3;");
        Due.is("send", x.send(2), 1);
        Due.is("send one who isn't in town by days", x.send(1), 2);
        Due.is("send again", x.send(2), -12);
        Due.is("away, as bits", x.count(3), 6);
        Due.is("call one who isn't away", x.call(0), -12);
        Due.is("call", x.call(2), 1);
        Due.is("call again", x.call(2), -12);
        Due.is("away", x.count(3), 2);
        Due.is("send nobody", x.send(3), -11);
        Due.is("send below 0", x.send(-1), -11);
        Due.is("call nobody", x.call(3), -11);
        Due.is("call below 0", x.call(-1), -11);
        Due.is("send a great number", x.send(Integer.MAX_VALUE), -11);
        Due.is("calls that can be undone", x.count(6), 3);
    }

    private static void days() {
        OppositeHouse x = Due.told("house lines 1;person 1;person 2 in 3 to 4;person 3 in 0 to 2;");
        Due.is("three days", x.days(3), 3);
        Due.is("day", x.count(4), 3);
        Due.is("one day", x.days(1), 3);
        Due.is("a day more", x.days(1), 1);
        Due.is("0 days", x.days(0), -3);
        Due.is("100 days", x.days(100), -3);
        Due.is("-1 days", x.days(-1), -3);
        Due.is("99 days", x.days(99), 1);
        Due.is("day", x.count(4), 104);
        Due.is("calls that can be undone", x.count(6), 4);
    }

    private static void undo() {
        OppositeHouse x = Due.told("house lines 1;person 1;person 5;person 9;");
        x.talk(0, 1);
        x.talk(0, 2);
        x.send(2);
        x.days(7);
        Due.is("undo the days", x.undo(1), 3);
        Due.is("day", x.count(4), 0);
        Due.is("still away", x.count(3), 4);
        Due.is("undo two", x.undo(2), 1);
        Due.is("nobody is away", x.count(3), 0);
        Due.is("views", x.person(0, 0), 2);
        Due.is("more than can be", x.undo(2), -3);
        Due.is("undo 0", x.undo(0), -3);
        Due.is("undo -1", x.undo(-1), -3);
        Due.is("undo 11", x.undo(11), -3);
        Due.is("undo the last", x.undo(1), 0);
        Due.is("views", x.person(0, 0), 1);
        Due.is("no more", x.undo(1), -3);
    }

    private static void undoForgetsTheEldest() {
        OppositeHouse x = Due.told("house lines 1;person 1;");
        for (int i = 0; i < 12; i++) {
            x.days(i + 1);
        }
        Due.is("ten at most", x.count(6), 10);
        Due.is("day", x.count(4), 78);
        Due.is("undo eleven", x.undo(11), -3);
        Due.is("undo ten", x.undo(10), 0);
        Due.is("the first two stay done", x.count(4), 3);
        x.days(1);
        x.days(1);
        Due.is("anew", x.undo(1), 1);
        Due.is("day", x.count(4), 4);
    }

    private static void judge() {
        OppositeHouse x = Due.told("house lines 1;person 1;person 2;person 8;person 9 in 2 to 3;day 1;");
        Due.is("no such tray", x.judge(4, 0), -2);
        Due.is("tray below 0", x.judge(-1, 0), -2);
        Due.is("no such what", x.judge(0, 4), -2);
        Due.is("what below 0, missing", x.judge(0, -1), -2);
        Due.is("missing", x.judge(0, 0), -6);
        Due.lay(x, 0, 1, 101, 20, -1, 30);
        Due.is("all can be", x.judge(0, 0), -1);
        Due.is("no why", x.judge(0, 1), 0);
        // 0 is nearer to 1: ease 2; 1 is away; 2 nearer to 0: 7; on day 2 comes 3, nearer to 0: 8.
        Due.is("2, 7, 8 don't sit", x.judge(0, 2), 0);
        Due.is("day then", x.judge(0, 3), 2);
        Due.is("as if done: day", x.count(4), 1);
        Due.is("as if done: views", x.person(0, 0), 1);
        Due.is("as if done: nothing to undo", x.count(6), 0);
        Due.lay(x, 1, 100, 12, -1, -1, -1);
        // 1 is nearer to 2: ease 3; 0 away; on day 4 those in town are 1 and 2: 3 and 8.
        Due.is("3 and 8 don't sit", x.judge(1, 2), 0);
        Due.is("day then", x.judge(1, 3), 4);
        Due.lay(x, 1, 101, -1, -1, -1);
        Due.is("1 and 8 sit on day 4", x.judge(1, 2), 1);
        Due.lay(x, 2);
        Due.is("no deeds", x.judge(2, 0), -1);
        Due.is("no deeds", x.judge(2, 1), 0);
        Due.is("1, 2, 8 don't sit", x.judge(2, 2), 0);
        Due.is("day", x.judge(2, 3), 1);
    }

    private static void why(OppositeHouse x, int place, int why, long... deeds) {
        Due.lay(x, 3, deeds);
        Due.is("place", x.judge(3, 0), place);
        Due.is("why", x.judge(3, 1), why);
    }

    private static void judgeWhyNot() {
        OppositeHouse x = Due.told("house lines 1;person 1;person 2 in 1 to 1;person 8;");
        why(x, 0, 1, 0);
        why(x, 0, 1, 3);
        why(x, 0, 1, 32, -1);
        why(x, 0, 1, 99);
        why(x, 0, 2, 1);
        why(x, 0, 2, 10);
        why(x, 1, 2, -1, 200);
        why(x, 2, 2, -1, 10, 200);
        why(x, 1, 2, 100, 100);
        why(x, 1, 2, 100, 2);
        why(x, 3, 2, 100, 200, 2, 200);
        why(x, 0, 1, 103);
        why(x, 0, 1, 203);
        why(x, 0, 1, 109);
        why(x, 0, 1, 110);
        why(x, 0, 1, 199);
        why(x, 0, 1, 210);
        why(x, 0, 1, -2);
        why(x, 0, 1, 1000);
        why(x, 1, 1, 101, 103, 101);
        Due.lay(x, 3, -1, 101, 10, -1);
        Due.is("day where it stops", x.judge(3, 3), 1);
        Due.is("sits where it stops: 1 and 8", x.judge(3, 2), 1);
        x.numbers(3, 3, 2);
        x.write(3, 0, 4294967296L);
        Due.is("a long that is a talk by its lowest bits", x.judge(3, 1), 1);
        x.write(3, 0, 4294967295L);
        Due.is("a long that is a day by its lowest bits", x.judge(3, 0), 0);
        x.write(3, 0, -1L);
        x.write(3, 1, 102L);
        Due.is("longs", x.judge(3, 0), -1);
    }

    private static void perform() {
        OppositeHouse x = Due.told("house lines 1;person 1;person 2;person 8;");
        Due.is("no such tray", x.perform(4), -2);
        Due.is("tray below 0", x.perform(-1), -2);
        Due.is("missing", x.perform(3), -6);
        Due.lay(x, 0, 2, 2, 101, -1, 12, 2);
        Due.is("till one can't be", x.perform(0), 4);
        Due.is("views", x.person(0, 0), 3);
        Due.is("away", x.count(3), 2);
        Due.is("day", x.count(4), 1);
        Due.is("one call to undo", x.count(6), 1);
        Due.lay(x, 1, 201, 20);
        Due.is("all", x.perform(1), 2);
        Due.is("views", x.person(2, 0), 7);
        x.numbers(2, 0, 3);
        Due.is("of 8 bits: a talk of 0 with itself", x.perform(2), 0);
        Due.is("a call that did none can't be undone", x.count(6), 2);
        x.write(2, 0, -1);
        x.write(2, 1, 109);
        Due.is("of 8 bits: a day; no such person", x.perform(2), 1);
        x.write(2, 1, 200);
        Due.is("200 is none of 8 bits", x.judge(2, 1), 1);
        long[] days = new long[40];
        java.util.Arrays.fill(days, -1);
        Due.lay(x, 3, days);
        Due.is("40 days can be", x.judge(3, 0), -1);
        Due.is("40 days", x.perform(3), 40);
        Due.is("two days, and 40", x.count(4), 42);
    }

    private static void performUndone() {
        OppositeHouse x = Due.told("house lines 1;person 1;person 2;person 8;");
        for (int i = 0; i < 10; i++) {
            x.days(1);
        }
        Due.lay(x, 0, 0);
        Due.is("none done", x.perform(0), 0);
        Due.is("undo all ten", x.undo(10), 0);
        Due.is("none was forgotten", x.count(4), 0);
        Due.lay(x, 0, 2, 100, -1);
        x.perform(0);
        Due.is("undone as a whole", x.undo(1), 0);
        Due.is("views", x.person(0, 0), 1);
        Due.is("away", x.count(3), 0);
        Due.is("day", x.count(4), 0);
    }

    /** The draws from seed 1, worked out with long arithmetic: see drawsOf. */
    private static int[] drawsOf(int seed, int n) {
        int[] draws = new int[n];
        long x = seed & 0xFFFFFFFFL;
        for (int i = 0; i < n; i++) {
            x = (1103515245L * x + 12345L) % 4294967296L;
            draws[i] = (int) (x / 65536L);
        }
        return draws;
    }

    private static void year() {
        String text = "house lines 1;person 1;person 2;person 3;person 4;person 5;person 6;person 7;person 8;person 9;person 0;";
        OppositeHouse x = Due.told(text);
        Due.is("0 times", x.year(1, 0), -3);
        Due.is("41 times", x.year(1, 41), -3);
        Due.is("-1 times", x.year(1, -1), -3);
        for (int seed : new int[] {1, 2, -1, 77, Integer.MIN_VALUE, Integer.MAX_VALUE, 123456789}) {
            OppositeHouse y = Due.told(text);
            int[] draws = drawsOf(seed, 120);
            int at = 0;
            int done = 0;
            x = Due.told(text);
            for (int i = 0; i < 40; i++) {
                int answer;
                switch (draws[at++] % 4) {
                    case 0 -> answer = y.days(1);
                    case 1 -> answer = y.talk(draws[at++] % 10, draws[at++] % 10);
                    case 2 -> answer = y.send(draws[at++] % 10);
                    default -> answer = y.call(draws[at++] % 10);
                }
                done += answer >= 0 ? 1 : 0;
            }
            Due.is("year of " + seed, x.year(seed, 40), done);
            for (int p = 0; p < 10; p++) {
                Due.is("views behind a year", x.person(p, 0), y.person(p, 0));
            }
            Due.is("away behind a year", x.count(3), y.count(3));
            Due.is("day behind a year", x.count(4), y.count(4));
            Due.is("one call to undo", x.count(6), 1);
        }
    }

    private static void yearUndone() {
        OppositeHouse x = new OppositeHouse();
        // From seed 0 the first draw is 12345 >>> 16, which is 0: a day.
        Due.is("a year of one day", x.year(0, 1), 1);
        Due.is("day", x.count(4), 1);
        Due.is("undone", x.undo(1), 0);
        Due.is("day", x.count(4), 0);
        int seed = 0;
        while (drawsOf(seed, 1)[0] % 4 == 0) {
            seed++;
        }
        Due.is("a year in which none can be", x.year(seed, 1), 0);
        Due.is("it can't be undone", x.count(6), 0);
    }
}
