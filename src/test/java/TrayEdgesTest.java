/** The edges of trays, images and counts (Terms 3, promises 39, 40, 42 to 44). */
final class TrayEdgesTest {
    private static final int[] FAR = {-1, Integer.MIN_VALUE, Integer.MAX_VALUE};

    private TrayEdgesTest() {
    }

    public static void main(String[] args) {
        missingAtFirst();
        noSuchTrayOrSort();
        boundsOfNumbers();
        inPlaceOfAnotherOne();
        traysBySelves();
        placesOfWrite();
        cutToItsSort();
        noneAtFirst();
        noSuchImage();
        imagesBySelves();
        whatIsInAnImage();
        whatIsNotInAnImage();
        nothingUndoneBehind();
        imageOfNoText();
        countsOfNew();
        countsAtTheirEdges();
        countsOfOthers();
        faultOfOthers();
        wholeUse();
        Due.end();
    }

    /** "TRAYS 0 to 3 are MISSING at first"; "-6 a TRAY is MISSING". */
    private static void missingAtFirst() {
        OppositeHouse x = Due.told("house lines 1;person 4;person 5;");
        for (int tray = 0; tray < 4; tray++) {
            for (int what = 0; what < 4; what++) {
                Due.is("judge", x.judge(tray, what), -6);
            }
            Due.is("perform", x.perform(tray), -6);
            Due.is("write", x.write(tray, 0, 1), -6);
            Due.is("write, no such number", x.write(tray, -1, 1), -6);
            Due.is("lists", x.lists(tray, 0, 1), -6);
            Due.is("numbers", x.numbers(tray, 0, 0), 0);
            Due.is("missing no more", x.perform(tray), 0);
        }
    }

    /** "-2: no such TRAY, sort", ahead of -3, -6 and -7. */
    private static void noSuchTrayOrSort() {
        OppositeHouse x = Due.told("house lines 1;person 4;person 5;");
        for (int i : new int[] {-1, 4, 5, Integer.MIN_VALUE, Integer.MAX_VALUE}) {
            Due.is("numbers: the tray", x.numbers(i, 0, 1), -2);
            Due.is("numbers: the tray, how many", x.numbers(i, 0, 41), -2);
            Due.is("numbers: the sort", x.numbers(0, i, 1), -2);
            Due.is("numbers: the sort, how many", x.numbers(0, i, -1), -2);
            Due.is("write", x.write(i, 0, 1), -2);
            Due.is("write, no such number", x.write(i, -1, 1), -2);
            Due.is("judge", x.judge(i, 0), -2);
            Due.is("judge: what, missing", x.judge(0, i), -2);
            Due.is("perform", x.perform(i), -2);
            Due.is("lists", x.lists(i, 0, 1), -2);
        }
        Due.is("the tray is missing still", x.perform(0), -6);
    }

    /** "0 to 40 numbers"; "-3, and the TRAY stays: n is below 0 or above 40". */
    private static void boundsOfNumbers() {
        OppositeHouse x = new OppositeHouse();
        for (int n : new int[] {-1, 41, Integer.MIN_VALUE, Integer.MAX_VALUE}) {
            Due.is("n " + n, x.numbers(2, 1, n), -3);
            Due.is("missing still", x.perform(2), -6);
        }
        Due.is("0", x.numbers(2, 1, 0), 0);
        Due.is("no number 0", x.write(2, 0, 1), -7);
        Due.is("1", x.numbers(2, 1, 1), 0);
        Due.is("number 0", x.write(2, 0, 1), 1);
        Due.is("no number 1", x.write(2, 1, 1), -7);
        Due.is("40", x.numbers(2, 1, 40), 0);
        Due.is("number 39", x.write(2, 39, 300), 300);
        Due.is("no number 40", x.write(2, 40, 1), -7);
        x.write(2, 0, -1);
        for (int n : new int[] {-1, 41}) {
            Due.is("n " + n, x.numbers(2, 0, n), -3);
            Due.is("its numbers stay", x.judge(2, 3), 1);
            Due.is("it has as many", x.write(2, 39, 300), 300);
        }
    }

    /** "all 0 (in place of another one): 0". */
    private static void inPlaceOfAnotherOne() {
        OppositeHouse x = new OppositeHouse();
        x.numbers(0, 3, 40);
        for (int i = 0; i < 40; i++) {
            x.write(0, i, -1);
        }
        Due.is("forty days", x.judge(0, 3), 40);
        Due.is("a smaller one", x.numbers(0, 3, 3), 0);
        Due.is("all 0", x.judge(0, 0), 0);
        x.write(0, 0, -1);
        x.write(0, 1, -1);
        x.write(0, 2, -1);
        Due.is("three days", x.judge(0, 3), 3);
        Due.is("a greater one", x.numbers(0, 1, 5), 0);
        Due.is("all 0", x.judge(0, 0), 0);
        for (int i = 0; i < 3; i++) {
            x.write(0, i, -1);
        }
        Due.is("the fourth is 0, too", x.judge(0, 0), 3);
        Due.is("of its new sort", x.write(0, 4, 65537), 1);
        Due.is("none", x.numbers(0, 1, 0), 0);
        Due.is("all can be", x.judge(0, 0), -1);
    }

    /** Each tray has its own numbers and sort. */
    private static void traysBySelves() {
        OppositeHouse x = new OppositeHouse();
        for (int tray = 0; tray < 4; tray++) {
            x.numbers(tray, 3 - tray, tray + 1);
        }
        for (int tray = 0; tray < 4; tray++) {
            for (int i = 0; i <= tray; i++) {
                x.write(tray, i, -1);
            }
            Due.is("no more", x.write(tray, tray + 1, -1), -7);
        }
        for (int tray = 0; tray < 4; tray++) {
            Due.is("days of tray " + tray, x.judge(tray, 3), tray + 1);
        }
        Due.is("64 bits", x.write(0, 0, 1L << 40), 1L << 40);
        Due.is("32 bits", x.write(1, 0, 1L << 40), 0);
    }

    /** "-7 it has no such number". */
    private static void placesOfWrite() {
        OppositeHouse x = new OppositeHouse();
        x.numbers(1, 0, 2);
        for (int i : new int[] {-1, 2, 3, 40, Integer.MIN_VALUE, Integer.MAX_VALUE}) {
            Due.is("number " + i, x.write(1, i, 5), -7);
        }
        Due.is("both are 0 still", x.judge(1, 0), 0);
        Due.is("number 0", x.write(1, 0, -1), -1);
        Due.is("number 1", x.write(1, 1, -1), -1);
        Due.is("two days", x.judge(1, 3), 2);
    }

    /** "numbers of 8 bits (sort 0), 16 (1), 32 (2), 64 (3)"; "v, cut to its sort: as it is there". */
    private static void cutToItsSort() {
        OppositeHouse x = new OppositeHouse();
        int[] bits = {8, 16, 32, 64};
        for (int sort = 0; sort < 4; sort++) {
            x.numbers(sort, sort, 1);
            int rest = 64 - bits[sort];
            long most = Long.MAX_VALUE >> rest;
            long[] given = {0, 1, -1, most, most + 1, -most - 1, -most - 2, 2 * most + 1, 2 * most + 2, Long.MAX_VALUE, Long.MIN_VALUE,
                1L << 7, 1L << 8, 1L << 15, 1L << 16, 1L << 31, 1L << 32};
            for (long v : given) {
                Due.is(v + " of " + bits[sort] + " bits", x.write(sort, 0, v), v << rest >> rest);
            }
        }
        Due.is("127", x.write(0, 0, 127), 127);
        Due.is("128", x.write(0, 0, 128), -128);
        Due.is("-128", x.write(0, 0, -128), -128);
        Due.is("-129", x.write(0, 0, -129), 127);
        Due.is("32768", x.write(1, 0, 32768), -32768);
        Due.is("2147483648", x.write(2, 0, 2147483648L), -2147483648L);
    }

    /** "IMAGES 0 to 1 .. (none at first)"; "-5: none was made". */
    private static void noneAtFirst() {
        OppositeHouse x = Due.told("house lines 1;person 4;");
        x.days(1);
        Due.is("0", x.restore(0), -5);
        Due.is("1", x.restore(1), -5);
        Due.is("what can be undone stays", x.count(6), 1);
        Due.is("day stays", x.count(4), 1);
        x.image(1);
        Due.is("0 still", x.restore(0), -5);
        Due.is("1", x.restore(1), 0);
        Due.is("1 once more", x.restore(1), 0);
    }

    /** Promises 42, 43: "-2". */
    private static void noSuchImage() {
        OppositeHouse x = new OppositeHouse();
        for (int i : new int[] {-1, 2, 3, Integer.MIN_VALUE, Integer.MAX_VALUE}) {
            Due.is("image(" + i + ")", x.image(i), -2);
            Due.is("restore(" + i + ")", x.restore(i), -2);
        }
        Due.is("none was made", x.restore(0), -5);
        Due.is("none was made", x.restore(1), -5);
    }

    /** One image leaves the other as it is; one made anew takes the place of the elder. */
    private static void imagesBySelves() {
        OppositeHouse x = Due.told("house lines 1;person 4;person 5;");
        x.days(1);
        Due.is("0", x.image(0), 0);
        x.days(1);
        Due.is("1", x.image(1), 0);
        x.days(1);
        x.restore(0);
        Due.is("day of 0", x.count(4), 1);
        x.restore(1);
        Due.is("day of 1", x.count(4), 2);
        x.days(5);
        Due.is("0 anew", x.image(0), 0);
        x.restore(1);
        Due.is("day of 1", x.count(4), 2);
        x.restore(0);
        Due.is("day of 0 anew", x.count(4), 7);
    }

    /** "THE HOUSE and what a call could bring back by UNDOING". */
    private static void whatIsInAnImage() {
        OppositeHouse x = Due.told("house lines 2;person 1 2 in 0 to 9 temper 3 weight 4;person 5 6;opposes:1=1;ayes:1=1;sways:1;day 2;");
        x.talk(0, 1);
        x.send(1);
        x.days(3);
        x.image(0);
        Due.tell(x, "house lines 3;person 9 9 9;person 9 9 9;person 9 9 9;");
        Due.is("another house", x.count(1), 3);
        Due.is("restore", x.restore(0), 0);
        long[] due = {2, 3, 0, 9, 3, 4, 0, 1};
        int[] what = {0, 1, 2, 4, 5, 6, 7, 8};
        for (int i = 0; i < due.length; i++) {
            Due.is("person(0, " + what[i] + ")", x.person(0, what[i]), due[i]);
        }
        Due.is("lines of views", x.count(0), 2);
        Due.is("people", x.count(1), 2);
        Due.is("away", x.count(3), 2);
        Due.is("day", x.count(4), 5);
        Due.is("lines of text", x.count(8), 7);
        Due.is("opposes", x.opposed(0, 1), 1);
        Due.is("ayes", x.ayes(0), 1);
        x.call(1);
        x.talk(0, 1);
        Due.is("sways", x.person(0, 0), 3);
        x.restore(0);
        Due.is("the image is as it was", x.person(0, 0), 2);
        Due.is("the image is as it was", x.count(3), 2);
    }

    /** The tape, the fault, trays and the other image aren't. */
    private static void whatIsNotInAnImage() {
        OppositeHouse x = Due.told("house lines 1;person 4;person 5;");
        x.image(0);
        Due.tell(x, "house lines 1;person 99;");
        x.feed(0, 0, 0, 0, 0);
        Due.lay(x, 1, -1, -1);
        x.days(4);
        x.image(1);
        Due.is("restore", x.restore(0), 0);
        Due.is("the fault stays", x.fault(0), 3);
        Due.is("its place stays", x.fault(1), 21);
        Due.is("the tape stays", x.count(7), 20);
        Due.is("the tray stays", x.judge(1, 3), 2);
        Due.is("the other image stays", x.restore(1), 0);
        Due.is("its day", x.count(4), 4);
    }

    /** "nothing can be UNDONE behind". */
    private static void nothingUndoneBehind() {
        OppositeHouse x = Due.told("house lines 1;person 4;person 5;");
        for (int i = 0; i < 5; i++) {
            x.days(1);
        }
        x.image(0);
        Due.is("an image leaves what can be undone", x.count(6), 5);
        Due.is("undo", x.undo(2), 3);
        Due.is("day", x.count(4), 3);
        Due.is("restore", x.restore(0), 0);
        Due.is("day", x.count(4), 5);
        Due.is("nothing can be", x.count(6), 0);
        Due.is("nothing can be", x.undo(1), -3);
        x.days(2);
        Due.is("but what is done then", x.undo(1), 0);
        Due.is("day", x.count(4), 5);
    }

    /** An image of an object without a text. */
    private static void imageOfNoText() {
        OppositeHouse x = new OppositeHouse();
        x.days(3);
        x.image(0);
        Due.tell(x, "house lines 3;person 1 1 1;");
        x.restore(0);
        Due.is("one line of views", x.count(0), 1);
        Due.is("no people", x.count(1), 0);
        Due.is("day", x.count(4), 3);
        Due.is("no person 0", x.person(0, 0), -2);
    }

    /** Promise 44, of a new object. */
    private static void countsOfNew() {
        OppositeHouse x = new OppositeHouse();
        long[] due = {1, 0, 0, 0, 0, 0, 0, 0, 0};
        for (int what = 0; what < due.length; what++) {
            Due.is("count(" + what + ")", x.count(what), due[what]);
        }
    }

    /** Promise 44, each at its greatest. */
    private static void countsAtTheirEdges() {
        OppositeHouse x = Due.told("house lines 3;" + "person 0 0 0;".repeat(10) + "opposes : 1 = 1;day 999;");
        Due.feed(x, new byte[900]);
        for (int i = 0; i < 12; i++) {
            x.days(99);
        }
        Due.is("lines of views", x.count(0), 3);
        Due.is("people", x.count(1), 10);
        Due.is("all in town", x.count(2), 1023);
        Due.is("none away", x.count(3), 0);
        Due.is("day", x.count(4), 999 + 12 * 99);
        Due.is("twos", x.count(5), 45);
        Due.is("calls that can be undone", x.count(6), 10);
        Due.is("bytes on the tape", x.count(7), 900);
        Due.is("lines of text", x.count(8), 13);
        for (int p = 0; p < 10; p++) {
            x.send(p);
        }
        Due.is("none in town", x.count(2), 0);
        Due.is("all away", x.count(3), 1023);
        Due.is("twos of all people, those away, too", x.count(5), 45);
    }

    /** "NONE for others". */
    private static void countsOfOthers() {
        OppositeHouse x = new OppositeHouse();
        Due.is("count(9)", x.count(9), -1);
        for (int what : FAR) {
            Due.is("count(" + what + ")", x.count(what), -1);
        }
    }

    /** Promise 4: "its FAULT (0)", "its place (NONE)", "NONE for others"; of the latest house() that was read. */
    private static void faultOfOthers() {
        OppositeHouse x = new OppositeHouse();
        Due.is("none was read: fault(0)", x.fault(0), 0);
        Due.is("none was read: fault(1)", x.fault(1), -1);
        Due.is("fault(2)", x.fault(2), -1);
        for (int what : FAR) {
            Due.is("fault(" + what + ")", x.fault(what), -1);
        }
        Due.tell(x, "house lines 0;");
        Due.is("3", x.fault(0), 3);
        Due.is("at 12", x.fault(1), 12);
        Due.is("fault(2)", x.fault(2), -1);
        Due.is("refused", x.house(1), -3);
        Due.is("refused", x.house(-1), -3);
        Due.is("3 still", x.fault(0), 3);
        Due.is("at 12 still", x.fault(1), 12);
        Due.tell(x, "house lines 1;");
        Due.is("0 again", x.fault(0), 0);
        Due.is("no place again", x.fault(1), -1);
    }

    /** "An object is used for at most 512 calls": the last of them answers, too. */
    private static void wholeUse() {
        OppositeHouse x = new OppositeHouse();
        for (int i = 1; i < 511; i++) {
            Due.is("days", x.days(99), 0);
        }
        Due.is("call 511", x.count(4), 510 * 99);
        Due.is("call 512", x.undo(10), 0);
    }
}
