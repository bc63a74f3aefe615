import java.util.List;
import java.util.function.ToLongFunction;

/** "Refused calls answer by a code and change nothing", and "Of several that which the call tells first". */
final class RefusedTest {
    private static final int MIN = Integer.MIN_VALUE;
    private static final int MAX = Integer.MAX_VALUE;

    private RefusedTest() {
    }

    public static void main(String[] args) {
        theHouse();
        textsWithFaults();
        fullTape();
        deeds();
        traysOfDeeds();
        sets();
        talks();
        bills();
        hiddenViews();
        trays();
        images();
        asksChangeNothing();
        doersAreSeen();
        foundAnewBehindAnyTwo();
        Due.end();
    }

    private static void theHouse() {
        for (int n : new int[] {-1, 21, 900, MIN, MAX}) {
            Twins.refused("house(" + n + ")", -3, x -> x.house(n));
        }
        for (int p : new int[] {-1, 5, 10, MIN, MAX}) {
            Twins.refused("person(" + p + ", 0)", -2, x -> x.person(p, 0));
            Twins.refused("opposed(" + p + ", 0)", -2, x -> x.opposed(p, 0));
            Twins.refused("opposed(0, " + p + ")", -2, x -> x.opposed(0, p));
            Twins.refused("opposed of no such one and itself", -2, x -> x.opposed(p, p));
            Twins.refused("opposites(" + p + ")", -2, x -> x.opposites(p));
        }
        for (int what : new int[] {-1, 9, MIN, MAX}) {
            Twins.refused("person(0, " + what + ")", -2, x -> x.person(0, what));
        }
        for (int n : new int[] {-1, 1000, MIN, MAX}) {
            Twins.refused("town(" + n + ")", -3, x -> x.town(n));
        }
    }

    /** Promise 3: "all stays with a FAULT"; "-30 less the FAULT: a text". */
    private static void textsWithFaults() {
        Twins.readWithFault("house lines 1;person 1;day 9;?", -31);
        Twins.readWithFault("house lines 1;person 1;day 9", -32);
        Twins.readWithFault("", -32);
        Twins.readWithFault("house lines 1;person 1;opposes:1=1;ayes:1=1;sways:1;day 9;person 10;", -33);
        Twins.readWithFault("house lines 1;" + "person 1;".repeat(11), -34);
        Twins.readWithFault("house lines 3;day 9;sways:(((((((1)))))));", -34);
    }

    /** Promise 2: "-5: it would have more than 900". */
    private static void fullTape() {
        OppositeHouse x = Twins.made();
        for (int i = 2; i <= 45; i++) {
            Due.is("feed", x.feed(i, i, i, i, i), 20 * i);
        }
        Due.is("one too many", x.feed(0, 0, 0, 0, 0), -5);
        Due.is("again", x.feed(-1, -1, -1, -1, -1), -5);
        Due.is("bytes on the tape", x.count(7), 900);
        Due.is("the first twenty are as they were", x.house(20), 2);
        Due.is("day", x.count(4), 7);
        Due.is("the tape is empty", x.feed(0, 0, 0, 0, 0), 20);
    }

    private static void deeds() {
        for (int p : new int[] {-1, 5, 10, MIN, MAX}) {
            Twins.refused("talk(" + p + ", 0)", -11, x -> x.talk(p, 0));
            Twins.refused("talk(0, " + p + ")", -11, x -> x.talk(0, p));
            Twins.refused("talk(3, " + p + "), 3 not in town", -11, x -> x.talk(3, p));
            Twins.refused("send(" + p + ")", -11, x -> x.send(p));
            Twins.refused("call(" + p + ")", -11, x -> x.call(p));
        }
        for (int p = 0; p < 5; p++) {
            int one = p;
            Twins.refused("talk(" + p + ", " + p + ")", -11, x -> x.talk(one, one));
        }
        for (int p : new int[] {3, 4}) {
            Twins.refused("talk(" + p + ", 0)", -12, x -> x.talk(p, 0));
            Twins.refused("talk(0, " + p + ")", -12, x -> x.talk(0, p));
        }
        Twins.refused("send(4), who is away", -12, x -> x.send(4));
        for (int p : new int[] {0, 1, 2, 3}) {
            Twins.refused("call(" + p + "), who isn't away", -12, x -> x.call(p));
        }
        for (int n : new int[] {-1, 0, 100, MIN, MAX}) {
            Twins.refused("days(" + n + ")", -3, x -> x.days(n));
        }
        for (int n : new int[] {-1, 0, 5, 10, 11, MIN, MAX}) {
            Twins.refused("undo(" + n + ") of four", -3, x -> x.undo(n));
        }
        for (int times : new int[] {-1, 0, 41, MIN, MAX}) {
            Twins.refused("year(1, " + times + ")", -3, x -> x.year(1, times));
        }
    }

    private static void traysOfDeeds() {
        for (int tray : new int[] {-1, 4, MIN, MAX}) {
            Twins.refused("judge(" + tray + ", 0)", -2, x -> x.judge(tray, 0));
            Twins.refused("judge(" + tray + ", 9)", -2, x -> x.judge(tray, 9));
            Twins.refused("perform(" + tray + ")", -2, x -> x.perform(tray));
        }
        for (int what : new int[] {-1, 4, MIN, MAX}) {
            Twins.refused("judge(0, " + what + ")", -2, x -> x.judge(0, what));
            Twins.refused("judge(3, " + what + "), missing", -2, x -> x.judge(3, what));
        }
        for (int what = 0; what < 4; what++) {
            int asked = what;
            Twins.refused("judge(3, " + what + ")", -6, x -> x.judge(3, asked));
        }
        Twins.refused("perform(3)", -6, x -> x.perform(3));
    }

    private static void sets() {
        for (int set : new int[] {32, 33, 63, -1, MIN, MAX}) {
            Twins.refused("sits", -3, x -> x.sits(set));
            Twins.refused("pairs", -3, x -> x.pairs(set, 0));
            Twins.refused("pairs, a partner", -3, x -> x.pairs(set, 14));
            Twins.refused("pairs, what first", -2, x -> x.pairs(set, 15));
            Twins.refused("ways", -3, x -> x.ways(set));
            Twins.refused("bar", -3, x -> x.bar(set, 1));
            Twins.refused("bar, what first", -2, x -> x.bar(set, 2));
            Twins.refused("pieces", -3, x -> x.pieces(set));
            Twins.refused("cover", -3, x -> x.cover(set, 0));
            Twins.refused("cover, what first", -2, x -> x.cover(set, -1));
            Twins.refused("laundress", -3, x -> x.laundress(set));
            Twins.refused("chance", -3, x -> x.chance(set, 1));
            Twins.refused("chance, what first", -2, x -> x.chance(set, 2));
            Twins.refused("reserve", -3, x -> x.reserve(set));
        }
        for (int what : new int[] {-1, 2, 9, 15, MIN, MAX}) {
            Twins.refused("pairs(3, " + what + ")", -2, x -> x.pairs(3, what));
            Twins.refused("bar(3, " + what + ")", -2, x -> x.bar(3, what));
            Twins.refused("cover(3, " + what + ")", -2, x -> x.cover(3, what));
            Twins.refused("chance(3, " + what + ")", -2, x -> x.chance(3, what));
        }
    }

    private static void talks() {
        for (int p : new int[] {-1, 5, MIN, MAX}) {
            Twins.refused("talks(" + p + ", 0)", -2, x -> x.talks(p, 0));
            Twins.refused("talks(0, " + p + ")", -2, x -> x.talks(0, p));
            Twins.refused("talkBy(" + p + ", 0, 0)", -2, x -> x.talkBy(p, 0, 0));
            Twins.refused("talkBy(0, " + p + ", -1), people first", -2, x -> x.talkBy(0, p, -1));
            Twins.refused("lists(0, " + p + ", 0)", -2, x -> x.lists(0, p, 0));
            Twins.refused("lists(3, 0, " + p + "), missing", -2, x -> x.lists(3, 0, p));
        }
        Twins.refused("talks(2, 2)", -2, x -> x.talks(2, 2));
        Twins.refused("talkBy(2, 2, -1)", -2, x -> x.talkBy(2, 2, -1));
        Twins.refused("talkBy(0, 1, -1)", -3, x -> x.talkBy(0, 1, -1));
        Twins.refused("talkBy(3, 1, -1), never", -3, x -> x.talkBy(3, 1, MIN));
        Twins.refused("lists(-1, 0, 1)", -2, x -> x.lists(-1, 0, 1));
        Twins.refused("lists(4, 0, 1)", -2, x -> x.lists(4, 0, 1));
        Twins.refused("lists(0, 1, 1)", -2, x -> x.lists(0, 1, 1));
        Twins.refused("lists(3, 1, 1), missing", -2, x -> x.lists(3, 1, 1));
        Twins.refused("lists(3, 3, 1), missing, never", -6, x -> x.lists(3, 3, 1));
        Twins.refused("lists(0, 3, 1), never", -5, x -> x.lists(0, 3, 1));
        Twins.refused("lists(0, 4, 1), never", -5, x -> x.lists(0, 4, 1));
    }

    private static void bills() {
        for (int bill : new int[] {-1, 10, MIN, MAX}) {
            Twins.refused("ayes(" + bill + ")", -3, x -> x.ayes(bill));
            Twins.refused("passes(" + bill + ")", -3, x -> x.passes(bill));
            Twins.refused("passed(" + bill + ", 1)", -3, x -> x.passed(bill, 1));
            Twins.refused("passed(" + bill + ", 2), what first", -2, x -> x.passed(bill, 2));
        }
        for (int what : new int[] {-1, 2, MIN, MAX}) {
            Twins.refused("passed(9, " + what + ")", -2, x -> x.passed(9, what));
        }
    }

    private static void hiddenViews() {
        for (int p : new int[] {-1, 5, MIN, MAX}) {
            Twins.refused("hidden(" + p + ", -1), one first", -2, x -> x.hidden(p, -1));
            Twins.refused("hiddenAt(" + p + ", 0, -1), one first", -2, x -> x.hiddenAt(p, 0, -1));
            Twins.refused("probe(" + p + ", 32), one first", -2, x -> x.probe(p, 32));
        }
        // The one, one who comes later, one who is away, no one, all.
        for (int set : new int[] {1, 8, 16, 32, -1}) {
            Twins.refused("hidden(0, " + set + ")", -3, x -> x.hidden(0, set));
            Twins.refused("hiddenAt(0, " + set + ", 0)", -3, x -> x.hiddenAt(0, set, 0));
            Twins.refused("probe(0, " + set + ")", -3, x -> x.probe(0, set));
        }
        Twins.refused("hidden(4, 16)", -3, x -> x.hidden(4, 16));
        Twins.refused("hiddenAt(0, 0, -1)", -3, x -> x.hiddenAt(0, 0, -1));
        Twins.refused("hiddenAt(0, 6, -1), none such", -3, x -> x.hiddenAt(0, 6, MIN));
    }

    private static void trays() {
        for (int i : new int[] {-1, 4, MIN, MAX}) {
            Twins.refused("numbers(" + i + ", 0, 41), the tray first", -2, x -> x.numbers(i, 0, 41));
            Twins.refused("numbers(0, " + i + ", 41), the sort first", -2, x -> x.numbers(0, i, 41));
            Twins.refused("numbers(0, " + i + ", 5)", -2, x -> x.numbers(0, i, 5));
            Twins.refused("write(" + i + ", -1, 5), the tray first", -2, x -> x.write(i, -1, 5));
        }
        for (int n : new int[] {-1, 41, MIN, MAX}) {
            Twins.refused("numbers(0, 3, " + n + ")", -3, x -> x.numbers(0, 3, n));
            Twins.refused("numbers(3, 3, " + n + ")", -3, x -> x.numbers(3, 3, n));
        }
        Twins.refused("write(3, 0, 5)", -6, x -> x.write(3, 0, 5));
        Twins.refused("write(3, -1, 5), missing first", -6, x -> x.write(3, -1, 5));
        for (int i : new int[] {-1, 3, 40, MIN, MAX}) {
            Twins.refused("write(0, " + i + ", 5)", -7, x -> x.write(0, i, 5));
        }
        Twins.refused("write(1, 0, 5) of none", -7, x -> x.write(1, 0, 5));
    }

    private static void images() {
        for (int i : new int[] {-1, 2, MIN, MAX}) {
            Twins.refused("image(" + i + ")", -2, x -> x.image(i));
            Twins.refused("restore(" + i + ")", -2, x -> x.restore(i));
        }
        Twins.refused("restore(1)", -5, x -> x.restore(1));
    }

    /** What is judged, what would be, what is only asked isn't done. */
    private static void asksChangeNothing() {
        for (int i = 0; i < 5; i++) {
            int p = i;
            Twins.asked("opposites", x -> x.opposites(p));
            Twins.asked("opposed", x -> x.opposed(p, 4 - p));
            Twins.asked("pairs", x -> x.pairs(31, 10 + p));
            Twins.asked("talks", x -> x.talks(p, (p + 2) % 5));
            Twins.asked("talkBy", x -> x.talkBy(p, (p + 2) % 5, 0));
            Twins.asked("hidden", x -> x.hidden(p, 0));
            Twins.asked("hiddenAt", x -> x.hiddenAt(p, 0, p));
            Twins.asked("probe", x -> x.probe(p, 0));
            Twins.asked("passed", x -> x.passed(p, 1));
            Twins.asked("passes", x -> x.passes(p));
            Twins.asked("ayes", x -> x.ayes(p));
            Twins.asked("town", x -> x.town(p));
            Twins.asked("cover", x -> x.cover(1 << p, 1));
            Twins.asked("laundress", x -> x.laundress(1 << p));
            Twins.asked("chance", x -> x.chance(31 - (1 << p), 0));
            Twins.asked("reserve", x -> x.reserve(1 << p));
            Twins.asked("count", x -> x.count(p));
            Twins.asked("fault", x -> x.fault(p));
        }
        for (int what = 0; what < 4; what++) {
            int asked = what;
            for (int tray = 0; tray < 3; tray++) {
                int of = tray;
                Twins.asked("judge", x -> x.judge(of, asked));
            }
        }
        Twins.asked("sits", x -> x.sits(31));
        Twins.asked("ways", x -> x.ways(31));
        Twins.asked("bar", x -> x.bar(31, 1));
        Twins.asked("pieces", x -> x.pieces(31));
        Twins.asked("bestDay", x -> x.bestDay());
        Twins.asked("firstDay", x -> x.firstDay());
        Twins.asked("quorum", x -> x.quorum());
        Twins.asked("word", x -> x.word());
        Twins.asked("easiest", x -> x.easiest());
        Twins.asked("perform of none", x -> x.perform(1));
        Twins.asked("perform of one who is away already", x -> x.perform(2));
    }

    /** Answers are of the state as it is, whatever was asked of it before. */
    private static void foundAnewBehindAnyTwo() {
        List<ToLongFunction<OppositeHouse>> doers = List.of(x -> x.talk(0, 1), x -> x.talk(1, 2), x -> x.send(0), x -> x.send(1),
                x -> x.call(4), x -> x.days(5), x -> x.undo(1), x -> x.undo(3), x -> x.perform(0), x -> x.year(3, 9),
                x -> x.restore(0), x -> x.house(20), x -> Due.tell(x, "house lines 1;person 3;person 8;person 5;"));
        for (int i = 0; i < doers.size(); i++) {
            for (int j = 0; j < doers.size(); j++) {
                Twins.foundAnew("calls " + i + ", " + j, doers.get(i), doers.get(j));
            }
        }
    }

    /** The comparison itself is held to see what calls change. */
    private static void doersAreSeen() {
        Twins.seen("feed", x -> x.feed(0, 0, 0, 0, 0));
        Twins.seen("house", x -> x.house(20));
        Twins.seen("talk", x -> x.talk(0, 1));
        Twins.seen("send", x -> x.send(0));
        Twins.seen("call", x -> x.call(4));
        Twins.seen("days", x -> x.days(7));
        Twins.seen("undo", x -> x.undo(1));
        Twins.seen("perform", x -> x.perform(0));
        Twins.seen("year", x -> x.year(0, 1));
        Twins.seen("numbers", x -> x.numbers(3, 0, 0));
        Twins.seen("numbers in place of others", x -> x.numbers(0, 0, 3));
        Twins.seen("write", x -> x.write(0, 2, 5));
        Twins.seen("lists", x -> x.lists(0, 0, 1));
        Twins.seen("image", x -> x.image(0));
        Twins.seen("the other image", x -> x.image(1));
        Twins.seen("restore", x -> x.restore(0));
    }
}
