import java.lang.reflect.Method;
import java.nio.charset.StandardCharsets;
import java.util.Arrays;
import java.util.Comparator;
import java.util.Random;

/** Long runs of drawn calls, on the program and on the model, which must answer alike. */
final class ModelTest {
    private static final Method[] CALLS = Arrays.stream(OppositeHouse.class.getDeclaredMethods())
            .filter(m -> java.lang.reflect.Modifier.isPublic(m.getModifiers()))
            .sorted(Comparator.comparing(Method::getName)).toArray(Method[]::new);
    private static Random draws;
    private static OppositeHouse x;
    private static Model model;
    private static String told;

    private ModelTest() {
    }

    public static void main(String[] args) throws Exception {
        int runs = args.length > 0 ? Integer.parseInt(args[0]) : 120;
        long start = args.length > 1 ? Long.parseLong(args[1]) : 0;
        Due.is("calls of the face", CALLS.length, 44 - 1);
        for (long seed = start; seed < start + runs; seed++) {
            run(seed);
        }
        for (long seed = start; seed < start + 20L * runs; seed++) {
            readSpoilt(new Texts(seed).spoilt());
            readSpoilt(new Texts(seed).scraps());
        }
        Due.end();
    }

    private static void run(long seed) throws Exception {
        draws = new Random(seed);
        x = new OppositeHouse();
        model = new Model();
        Texts texts = new Texts(seed);
        int calls = 0;
        if (seed % 10 != 0) {
            calls += tell(texts.house());
        }
        while (calls < 400) {
            if (draws.nextInt(150) == 0) {
                calls += tell(draws.nextInt(4) == 0 ? texts.spoilt() : texts.house());
            } else {
                callBoth(seed, CALLS[draws.nextInt(CALLS.length)]);
                calls++;
            }
        }
    }

    private static void readSpoilt(String text) {
        x = new OppositeHouse();
        model = new Model();
        tell(text);
        for (int what = 0; what < 9; what++) {
            Due.is("count(" + what + ") behind " + told, x.count(what), model.count(what));
        }
    }

    private static int tell(String text) {
        told = text;
        byte[] bytes = text.getBytes(StandardCharsets.ISO_8859_1);
        // A house that can't be read leaves what a draw has put on the tape; this takes it off.
        x.house(0);
        model.house(0);
        int[][] fives = Due.fives(bytes);
        for (int[] f : fives) {
            Due.is("feed", x.feed(f[0], f[1], f[2], f[3], f[4]), model.feed(f[0], f[1], f[2], f[3], f[4]));
        }
        Due.is("house of " + text, x.house(bytes.length), model.house(bytes.length));
        Due.is("fault(0) of " + text, x.fault(0), model.fault(0));
        Due.is("fault(1) of " + text, x.fault(1), model.fault(1));
        return fives.length + 4;
    }

    private static void callBoth(long seed, Method call) throws Exception {
        Object[] with = new Object[call.getParameterCount()];
        for (int i = 0; i < with.length; i++) {
            with[i] = drawn(call.getName(), i);
            if (call.getParameterTypes()[i] == long.class) {
                with[i] = ((Integer) with[i]).longValue() * (draws.nextInt(9) == 0 ? 4294967297L : 1L);
            }
        }
        Method same = Model.class.getDeclaredMethod(call.getName(), call.getParameterTypes());
        long got = ((Number) call.invoke(x, with)).longValue();
        long want = ((Number) same.invoke(model, with)).longValue();
        Due.is("run " + seed + ": " + call.getName() + Arrays.toString(with) + " of " + told, got, want);
    }

    private static Integer drawn(String call, int i) {
        if (draws.nextInt(40) == 0) {
            int[] odd = {-1, -2, Integer.MIN_VALUE, Integer.MAX_VALUE, 1 << 30, 1000, 1024, 40, 41, 99, 100, 10};
            return odd[draws.nextInt(odd.length)];
        }
        int people = model.count(1);
        switch (call) {
            case "feed":
                return draws.nextInt();
            case "house":
                return draws.nextInt(3) - 2;
            case "count":
                return draws.nextInt(10);
            case "town":
                return draws.nextInt(40);
            case "days":
                return 1 + draws.nextInt(draws.nextInt(4) == 0 ? 99 : 3);
            case "undo":
                return 1 + draws.nextInt(4);
            case "year":
                return i == 0 ? draws.nextInt() : 1 + draws.nextInt(draws.nextInt(3) == 0 ? 40 : 4);
            case "fault", "image", "restore":
                return draws.nextInt(2);
            case "ayes", "passes":
                return draws.nextInt(10);
            case "passed":
                return i == 0 ? draws.nextInt(10) : draws.nextInt(2);
            case "sits", "ways", "pieces", "laundress", "reserve":
                return setIn(people, false);
            case "pairs":
                return i == 0 ? setIn(people, false)
                        : draws.nextInt(3) != 0 ? 10 + draws.nextInt(people + 1) : draws.nextInt(2);
            case "bar", "cover", "chance":
                return i == 0 ? setIn(people, false) : draws.nextInt(2);
            case "hidden", "hiddenAt", "probe":
                return i == 1 ? setIn(people, true) : i == 0 ? draws.nextInt(people + 1) : draws.nextInt(20);
            case "numbers":
                return i == 0 ? draws.nextInt(3) : i == 1 ? draws.nextInt(4) : draws.nextInt(9);
            case "write":
                return i == 0 ? draws.nextInt(3) : i == 1 ? draws.nextInt(6) : deed(people);
            case "lists":
                return i == 0 ? draws.nextInt(3) : draws.nextInt(people + 1);
            case "judge":
                return i == 0 ? draws.nextInt(3) : draws.nextInt(4);
            case "perform":
                return draws.nextInt(3);
            case "person":
                return i == 0 ? draws.nextInt(people + 1) : draws.nextInt(10);
            default:
                return draws.nextInt(people + 1);
        }
    }

    private static int setIn(int people, boolean inTown) {
        int set = draws.nextInt(1 << people) | (draws.nextInt(3) == 0 ? draws.nextInt(1 << people) : 0);
        if (inTown && draws.nextInt(9) != 0) {
            set &= model.count(2) & draws.nextInt(1024);
        }
        return set;
    }

    private static int deed(int people) {
        int p = draws.nextInt(people + 1);
        switch (draws.nextInt(8)) {
            case 0:
                return -1;
            case 1:
                return 100 + p;
            case 2:
                return 200 + p;
            case 3:
                return draws.nextInt(400) - 50;
            default:
                return 10 * p + draws.nextInt(people + 1);
        }
    }
}
