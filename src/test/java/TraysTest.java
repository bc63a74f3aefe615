/** Promises 39 to 44: trays, turning as deeds, images, counts. */
final class TraysTest {
    private TraysTest() {
    }

    public static void main(String[] args) {
        numbers();
        write();
        lists();
        listsRefused();
        image();
        imagesOfHouses();
        restoreRefused();
        count();
        Due.end();
    }

    private static void numbers() {
        OppositeHouse x = new OppositeHouse();
        Due.is("no such tray", x.numbers(4, 0, 1), -2);
        Due.is("tray below 0", x.numbers(-1, 0, 1), -2);
        Due.is("no such sort", x.numbers(0, 4, 41), -2);
        Due.is("sort below 0", x.numbers(0, -1, 1), -2);
        Due.is("41 numbers", x.numbers(0, 0, 41), -3);
        Due.is("the tray stays missing", x.perform(0), -6);
        Due.is("-1 numbers", x.numbers(0, 0, -1), -3);
        Due.is("none", x.numbers(0, 0, 0), 0);
        Due.is("no deeds", x.perform(0), 0);
        Due.is("40", x.numbers(0, 1, 40), 0);
        Due.is("the last", x.write(0, 39, -1), -1);
        Due.is("the first is 0: no such person", x.judge(0, 1), 1);
        x.write(0, 0, -1);
        Due.is("a day", x.judge(0, 0), 1);
        Due.is("refused", x.numbers(0, 1, 50), -3);
        Due.is("the tray stays", x.judge(0, 0), 1);
        Due.is("anew", x.numbers(0, 1, 40), 0);
        Due.is("all 0", x.judge(0, 0), 0);
        Due.is("other trays are missing", x.perform(1), -6);
    }

    private static void write() {
        OppositeHouse x = new OppositeHouse();
        Due.is("no such tray", x.write(4, 0, 1), -2);
        Due.is("tray below 0", x.write(-1, 0, 1), -2);
        Due.is("missing", x.write(3, 0, 1), -6);
        for (int sort = 0; sort < 4; sort++) {
            x.numbers(sort, sort, 2);
        }
        Due.is("no such number", x.write(0, 2, 1), -7);
        Due.is("number below 0", x.write(0, -1, 1), -7);
        Due.is("8 bits", x.write(0, 0, 127), 127);
        Due.is("8 bits", x.write(0, 0, 128), -128);
        Due.is("8 bits", x.write(0, 0, 511), -1);
        Due.is("8 bits", x.write(0, 0, -129), 127);
        Due.is("16 bits", x.write(1, 1, 32767), 32767);
        Due.is("16 bits", x.write(1, 1, 32768), -32768);
        Due.is("16 bits", x.write(1, 1, 65536 + 5), 5);
        Due.is("32 bits", x.write(2, 0, 2147483647L), 2147483647L);
        Due.is("32 bits", x.write(2, 0, 2147483648L), -2147483648L);
        Due.is("32 bits", x.write(2, 0, 4294967296L), 0);
        Due.is("64 bits", x.write(3, 1, Long.MIN_VALUE), Long.MIN_VALUE);
        Due.is("64 bits", x.write(3, 1, Long.MAX_VALUE), Long.MAX_VALUE);
    }

    private static void lists() {
        OppositeHouse x = Due.told("house lines 1;person 2;person 5;person 6;person 9;person 3;");
        x.numbers(0, 0, 6);
        Due.is("1 1 1 2", x.lists(0, 0, 4), 4);
        Due.is("behind them stands 0 with itself", x.judge(0, 0), 4);
        Due.is("done", x.perform(0), 4);
        Due.is("they are opposites", x.opposed(0, 4), 1);
        x.undo(1);
        x.numbers(1, 2, 3);
        Due.is("as far as it has places", x.lists(1, 0, 4), 3);
        Due.is("done", x.perform(1), 3);
        Due.is("not yet opposites", x.opposed(0, 4), 0);
        Due.is("0 has 5", x.person(0, 0), 5);
        x.numbers(2, 3, 2);
        x.write(2, 0, -1);
        Due.is("one more", x.lists(2, 0, 4), 1);
        x.write(2, 1, -1);
        Due.is("0 with 2, a day", x.perform(2), 2);
        Due.is("opposites", x.opposed(0, 4), 1);
        x.write(2, 0, -1);
        Due.is("no talk is needed", x.lists(2, 0, 4), 0);
        Due.is("its numbers stay", x.judge(2, 3), 3);
        x.numbers(2, 3, 0);
        Due.is("no places", x.lists(2, 3, 1), 0);
        x.numbers(3, 1, 5);
        Due.is("of a later person: 9 down to 4", x.lists(3, 3, 1), 5);
        Due.is("deeds of 30 and more", x.perform(3), 5);
        Due.is("opposites", x.opposed(3, 1), 1);
    }

    private static void listsRefused() {
        OppositeHouse x = Due.told("house lines 1;person 2;person 2;person 3 in 1 to 2;");
        Due.is("no such tray", x.lists(4, 0, 1), -2);
        Due.is("tray below 0", x.lists(-1, 0, 1), -2);
        Due.is("no such one", x.lists(0, 3, 1), -2);
        Due.is("no such one", x.lists(0, 0, -1), -2);
        Due.is("both one", x.lists(0, 0, 0), -2);
        Due.is("missing", x.lists(0, 0, 1), -6);
        x.numbers(0, 0, 2);
        x.write(0, 0, -1);
        Due.is("never", x.lists(0, 0, 1), -5);
        Due.is("never, not in town", x.lists(0, 2, 1), -5);
        Due.is("the tray stays", x.judge(0, 3), 1);
    }

    private static void image() {
        OppositeHouse x = Due.told("house lines 1;person 2;person 5;");
        x.talk(0, 1);
        x.send(1);
        x.days(3);
        Due.is("image", x.image(0), 0);
        Due.is("what can be undone stays", x.count(6), 3);
        x.call(1);
        x.talk(0, 1);
        x.days(9);
        Due.is("restore", x.restore(0), 0);
        Due.is("views", x.person(0, 0), 3);
        Due.is("away", x.count(3), 2);
        Due.is("day", x.count(4), 3);
        Due.is("nothing can be undone behind", x.count(6), 0);
        Due.is("nothing can be undone behind", x.undo(1), -3);
        x.days(1);
        Due.is("but what comes then", x.undo(1), 0);
        x.call(1);
        x.talk(0, 1);
        x.restore(0);
        Due.is("an image stays", x.person(0, 0), 3);
        Due.is("an image stays", x.count(3), 2);
    }

    private static void imagesOfHouses() {
        OppositeHouse x = new OppositeHouse();
        x.image(1);
        Due.tell(x, "house lines 2;person 2 1 temper 4;person 5 2;opposes : 1 = 1;day 4;");
        x.talk(0, 1);
        x.image(0);
        x.numbers(0, 0, 1);
        Due.tell(x, "house lines 1;person 7;person 8;person 9;");
        Due.feed(x, "house".getBytes());
        x.restore(0);
        Due.is("lines", x.count(0), 2);
        Due.is("people", x.count(1), 2);
        Due.is("lines of text", x.count(8), 5);
        Due.is("temper", x.person(0, 5), 4);
        Due.is("views", x.person(0, 0), 3);
        Due.is("the law", x.opposed(0, 1), 1);
        Due.is("day", x.count(4), 4);
        Due.is("the tape stays", x.count(7), 20);
        Due.is("trays stay", x.perform(0), 0);
        Due.is("the first image", x.restore(1), 0);
        Due.is("no people", x.count(1), 0);
        Due.is("one line", x.count(0), 1);
        Due.is("no text", x.count(8), 0);
        Due.is("day 0", x.count(4), 0);
        x.restore(0);
        Due.is("and back", x.count(1), 2);
        x.image(1);
        x.send(0);
        x.restore(1);
        Due.is("made anew", x.count(1), 2);
    }

    private static void restoreRefused() {
        OppositeHouse x = new OppositeHouse();
        Due.is("image 2", x.image(2), -2);
        Due.is("image -1", x.image(-1), -2);
        Due.is("restore 2", x.restore(2), -2);
        Due.is("restore -1", x.restore(-1), -2);
        Due.is("none was made", x.restore(0), -5);
        x.image(1);
        Due.is("none was made of 0", x.restore(0), -5);
        Due.is("of 1", x.restore(1), 0);
    }

    private static void count() {
        OppositeHouse x = Due.told("house lines 3;person 9 0 0;person 0 0 0;person 0 0 0 in 6 to 7;person 9 0 0;day 5;");
        x.send(3);
        x.feed(0, 0, 0, 0, 0);
        long[] want = {3, 4, 3, 8, 5, 4, 1, 20, 6};
        for (int what = 0; what < want.length; what++) {
            Due.is("count(" + what + ")", x.count(what), want[what]);
        }
        Due.is("count(9)", x.count(9), -1);
        Due.is("count(-1)", x.count(-1), -1);
    }
}
