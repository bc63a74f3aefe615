import java.util.ArrayList;
import java.util.Arrays;
import java.util.List;
import java.util.function.ToLongFunction;

/** Objects of one past: a call that changes nothing leaves one of them like the other. */
final class Twins {
    private static final String HOUSE = "house lines 2;person 1 2 temper 5;person 5 6;person 8 3;person 0 1 in 9 to 12;"
            + "person 7 7 weight 3;ayes : ease + bill > 9;day 4;";
    /** Of twenty bytes, so that it fills one feed. */
    private static final String ON_TAPE = "house lines 2;day 7;";

    private Twins() {
    }

    /**
     * In town are 0, 1, 2; 3 comes on day 9, 4 is away. Four calls can be undone, image 0 is made, tray 3 is
     * missing, tray 1 is empty, twenty bytes are on the tape, the latest text that was read has fault 3 at 12.
     */
    static OppositeHouse made() {
        OppositeHouse x = new OppositeHouse();
        Due.tell(x, HOUSE);
        x.days(1);
        x.image(0);
        Due.tell(x, "house lines 9;");
        Due.feed(x, ON_TAPE.getBytes());
        x.talk(0, 1);
        x.send(4);
        x.days(1);
        x.numbers(0, 0, 3);
        x.write(0, 0, -1);
        x.write(0, 1, 21);
        x.write(0, 2, 100);
        x.numbers(1, 1, 0);
        x.numbers(2, 3, 2);
        x.write(2, 0, 104);
        return x;
    }

    /** All that can be seen of an object, with or without what house() changes even with a fault. */
    private static long[] look(OppositeHouse x, boolean tapeToo) {
        List<Long> seen = new ArrayList<>();
        seeState(x, seen);
        for (int n = 0; n < 9; n++) {
            seen.add((long) x.town(n));
        }
        for (int tray = 0; tray < 4; tray++) {
            for (int what = 0; what < 4; what++) {
                seen.add((long) x.judge(tray, what));
            }
        }
        for (int p = 0; p < x.count(1); p++) {
            seen.add((long) x.opposites(p));
            seen.add((long) x.hidden(p, 0));
            seen.add((long) x.talks(p, (p + 1) % 5));
        }
        seen.add((long) x.word());
        seen.add((long) x.easiest());
        if (tapeToo) {
            seen.add((long) x.fault(0));
            seen.add((long) x.fault(1));
            seen.add((long) x.count(7));
        }
        for (int tray = 0; tray < 4; tray++) {
            seen.add((long) x.perform(tray));
        }
        for (int i = 0; i < 7; i++) {
            seen.add((long) x.undo(1));
            seeState(x, seen);
        }
        seen.add((long) x.restore(1));
        seen.add((long) x.restore(0));
        seeState(x, seen);
        if (tapeToo) {
            seen.add((long) x.house(20));
            seen.add((long) x.count(4));
        }
        return seen.stream().mapToLong(Long::longValue).toArray();
    }

    private static void seeState(OppositeHouse x, List<Long> seen) {
        for (int what = 0; what < 9; what++) {
            if (what != 7) {
                seen.add((long) x.count(what));
            }
        }
        for (int p = 0; p < x.count(1); p++) {
            for (int what = 0; what < 2; what++) {
                seen.add((long) x.person(p, what));
            }
            seen.add((long) x.person(p, 5));
        }
    }

    /** A refused call answers by its code and changes nothing. */
    static void refused(String name, long code, ToLongFunction<OppositeHouse> call) {
        OppositeHouse x = made();
        Due.is(name, call.applyAsLong(x), code);
        Due.isTrue(name + " changes nothing", Arrays.equals(look(x, true), look(made(), true)));
    }

    /** A call that asks answers by no code, and changes nothing. */
    static void asked(String name, ToLongFunction<OppositeHouse> call) {
        OppositeHouse x = made();
        long answer = call.applyAsLong(x);
        Due.isTrue(name + " is answered: " + answer, answer >= -1);
        Due.isTrue(name + " changes nothing", Arrays.equals(look(x, true), look(made(), true)));
    }

    /** A text with a fault changes nothing but the tape and what fault() tells. */
    static void readWithFault(String text, long code) {
        OppositeHouse x = made();
        x.house(0);
        Due.is(text, Due.tell(x, text), code);
        Due.is("the tape is empty behind " + text, x.count(7), 0);
        Due.isTrue(text + " changes nothing else", Arrays.equals(look(x, false), look(made(), false)));
    }

    /** What is asked ahead of two calls doesn't colour what is asked behind them. */
    static void foundAnew(String name, ToLongFunction<OppositeHouse> first, ToLongFunction<OppositeHouse> then) {
        OppositeHouse x = made();
        for (int p = 0; p < 5; p++) {
            x.talks(p, (p + 1) % 5);
        }
        // The latest of each kind is what could be kept: asked first in a look as well.
        x.hidden(0, 0);
        x.talks(0, 1);
        first.applyAsLong(x);
        then.applyAsLong(x);
        OppositeHouse y = made();
        first.applyAsLong(y);
        then.applyAsLong(y);
        Due.all(name, new long[] {x.talks(0, 1), x.talkBy(0, 1, 0), x.hidden(0, 0), x.hiddenAt(0, 0, 3)},
                y.talks(0, 1), y.talkBy(0, 1, 0), y.hidden(0, 0), y.hiddenAt(0, 0, 3));
        Due.isTrue(name + ", all else", Arrays.equals(look(x, true), look(y, true)));
    }

    /** That the look sees what calls change: a call that does some must not look like none. */
    static void seen(String name, ToLongFunction<OppositeHouse> call) {
        OppositeHouse x = made();
        long answer = call.applyAsLong(x);
        Due.isTrue(name + " is done: " + answer, answer >= -1);
        Due.isTrue(name + " is seen", !Arrays.equals(look(x, true), look(made(), true)));
    }
}
