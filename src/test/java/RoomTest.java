import java.lang.management.ManagementFactory;

/** All calls of one run live in one room: a long run must make little. */
final class RoomTest {
    private static final String HOUSE = "house lines 3;" + "person 1 2 3 in 0 to 9 temper 5;person 8 7 6;".repeat(5)
            + "opposes : ease + unease = 9 or (faith - unfaith) * (faith - unfaith) > 20 and day < 6;"
            + "ayes : ease + bill > 7;sways : unease - ease + line - 1;";
    /** Bytes that a call may make beside those of a house that it reads. */
    private static final long NOTHING = 64;

    private RoomTest() {
    }

    private static long bytesMade() {
        return ((com.sun.management.ThreadMXBean) ManagementFactory.getThreadMXBean()).getCurrentThreadAllocatedBytes();
    }

    public static void main(String[] args) {
        longRun(new OppositeHouse());
        long start = bytesMade();
        OppositeHouse x = new OppositeHouse();
        long made = bytesMade() - start;
        System.out.println("a new object makes " + made + " bytes");
        Due.isTrue("a new object makes less than 64 KiB", made < 65536);
        Due.tell(x, HOUSE);
        start = bytesMade();
        longRun(x);
        made = bytesMade() - start;
        System.out.println("a long run makes " + made + " bytes");
        Due.isTrue("calls make nothing", made <= NOTHING * 512);
        housesOnly();
        Due.end();
    }

    private static void longRun(OppositeHouse x) {
        for (int i = 0; i < 11; i++) {
            int p = i % 9;
            ask(x, p);
            act(x, p);
        }
    }

    private static void ask(OppositeHouse x, int p) {
        int town = x.count(2);
        x.opposites(p);
        x.sits(1023);
        x.pairs(1023, 10 + p);
        x.ways(1023);
        x.bar(1023, 1);
        x.pieces(1023);
        x.bestDay();
        x.firstDay();
        x.quorum();
        x.cover(1 << p, 1);
        x.laundress(7);
        x.talks(p, p + 1);
        x.talkBy(p, p + 1, 0);
        x.word();
        x.passes(p);
        x.passed(p, 1);
        x.easiest();
        x.hidden(p, town & 640 & ~(1 << p));
        x.hiddenAt(p, 0, 3);
        x.probe(p, 0);
        x.chance(1023, 0);
        x.reserve(31);
        x.count(5);
    }

    private static void act(OppositeHouse x, int p) {
        x.talk(p, p + 1);
        x.send(p);
        x.days(1);
        x.call(p);
        x.numbers(0, 3, 40);
        x.write(0, 0, -1);
        x.lists(0, p, p + 1);
        x.judge(0, 2);
        x.perform(0);
        x.year(p, 40);
        x.undo(1);
        x.image(p % 2);
        x.restore(p % 2);
    }

    /** Each text is of one feed, so 256 houses are as many as a run can read. */
    private static void housesOnly() {
        OppositeHouse x = new OppositeHouse();
        byte[] text = "house lines 1;day 5;".getBytes();
        Due.is("read", Due.tell(x, "house lines 1;day 5;"), 2);
        int[] f = Due.fives(text)[0];
        long start = bytesMade();
        for (int i = 0; i < 255; i++) {
            x.feed(f[0], f[1], f[2], f[3], f[4]);
            x.house(20);
        }
        long made = bytesMade() - start;
        System.out.println("255 houses make " + made + " bytes");
        Due.isTrue("a house makes less than 1 KiB", made < 255 * 1024);
    }
}
