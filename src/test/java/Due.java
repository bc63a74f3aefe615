import java.nio.charset.StandardCharsets;
import java.util.Arrays;

/** What the tests share: to tell a house as a text, and to note answers that are not as due. */
final class Due {
    private static int asked = 0;
    private static int wrong = 0;

    private Due() {
    }

    static void is(String call, long got, long want) {
        asked++;
        if (got != want) {
            wrong++;
            System.out.println(call + " answered " + got + ", due is " + want);
        }
    }

    static void all(String call, long[] got, long... want) {
        asked++;
        if (!Arrays.equals(got, want)) {
            wrong++;
            System.out.println(call + " answered " + Arrays.toString(got) + ", due is " + Arrays.toString(want));
        }
    }

    static void isTrue(String what, boolean holds) {
        asked++;
        if (!holds) {
            wrong++;
            System.out.println("not so: " + what);
        }
    }

    /** Ends the test, with exit code 1 if an answer was wrong. */
    static void end() {
        System.out.println(asked + " answers, " + wrong + " not as due");
        if (wrong != 0 || asked == 0) {
            System.exit(1);
        }
    }

    /** The five ints of each twenty bytes of a text, with blanks behind it. */
    static int[][] fives(byte[] text) {
        int[][] fives = new int[(text.length + 19) / 20][5];
        for (int i = 0; i < fives.length * 20; i++) {
            int b = i < text.length ? text[i] & 255 : 32;
            fives[i / 20][i % 20 / 4] = fives[i / 20][i % 20 / 4] << 8 | b;
        }
        return fives;
    }

    static void feed(OppositeHouse x, byte[] text) {
        for (int[] f : fives(text)) {
            x.feed(f[0], f[1], f[2], f[3], f[4]);
        }
    }

    /** Feeds a text and reads it: what house() answers. */
    static int tell(OppositeHouse x, String text) {
        byte[] bytes = text.getBytes(StandardCharsets.ISO_8859_1);
        feed(x, bytes);
        return x.house(bytes.length);
    }

    /** A new object with a house that has no fault. */
    static OppositeHouse told(String text) {
        OppositeHouse x = new OppositeHouse();
        int answer = tell(x, text);
        isTrue("read without a fault: " + text, answer > 0);
        return x;
    }

    /** Lays numbers of 16 bits into a tray. */
    static void lay(OppositeHouse x, int tray, long... numbers) {
        x.numbers(tray, 1, numbers.length);
        for (int i = 0; i < numbers.length; i++) {
            x.write(tray, i, numbers[i]);
        }
    }
}
