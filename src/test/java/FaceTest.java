import java.lang.reflect.Constructor;
import java.lang.reflect.Field;
import java.lang.reflect.Method;
import java.lang.reflect.Modifier;
import java.nio.file.Files;
import java.nio.file.Path;
import java.util.ArrayList;
import java.util.List;
import java.util.Set;
import java.util.TreeSet;
import java.util.regex.Matcher;
import java.util.regex.Pattern;

/** The public face is that of the document, and README.md shows each call of it, and each code but -4. */
final class FaceTest {
    /** As the document writes it under 'The public face'. */
    private static final String FACE = """
            public static final int NONE = -1;
            public OppositeHouse();
            public int feed(int a, int b, int c, int d, int e);
            public int house(int n);
            public int fault(int what);
            public int person(int p, int what);
            public int town(int n);
            public int opposed(int p, int q);
            public int opposites(int p);
            public int talk(int p, int q);
            public int send(int p);
            public int call(int p);
            public int days(int n);
            public int undo(int n);
            public int judge(int tray, int what);
            public int perform(int tray);
            public int year(int seed, int times);
            public int sits(int set);
            public int pairs(int set, int what);
            public int ways(int set);
            public int bar(int set, int what);
            public int pieces(int set);
            public int bestDay();
            public int firstDay();
            public int quorum();
            public int cover(int set, int what);
            public int laundress(int set);
            public int talks(int p, int q);
            public int talkBy(int p, int q, int i);
            public int word();
            public int ayes(int bill);
            public int passes(int bill);
            public int passed(int bill, int what);
            public int easiest();
            public int hidden(int p, int set);
            public int hiddenAt(int p, int set, int k);
            public int probe(int p, int set);
            public long chance(int set, int what);
            public int reserve(int set);
            public int numbers(int tray, int sort, int n);
            public long write(int tray, int i, long v);
            public int lists(int tray, int p, int q);
            public int image(int i);
            public int restore(int i);
            public int count(int what);
            """;
    private static final Path PAGE = Path.of("README.md");
    private static final int[] CODES = {-1, -2, -3, -5, -6, -7, -11, -12, -31, -32, -33, -34};

    private FaceTest() {
    }

    public static void main(String[] args) throws Exception {
        Set<String> told = toldFace();
        Set<String> stands = standingFace();
        Due.is("told: a constant, a constructor and 43 methods", told.size(), 45);
        for (String member : told) {
            Due.isTrue(member + " stands", stands.contains(member));
        }
        for (String member : stands) {
            Due.isTrue(member + " is told", told.contains(member));
        }
        Due.is("NONE", OppositeHouse.NONE, -1);
        page();
        Due.end();
    }

    /** The members that the document tells, without the names of what is given. */
    private static Set<String> toldFace() {
        Set<String> members = new TreeSet<>();
        Matcher lines = Pattern.compile("(?m)^public ([^;]*);$").matcher(FACE);
        while (lines.find()) {
            members.add(lines.group(1).replaceAll(" = .*", "").replaceAll("(int|long) \\w+(?=[,)])", "$1"));
        }
        return members;
    }

    private static Set<String> standingFace() {
        Set<String> members = new TreeSet<>();
        for (Field f : OppositeHouse.class.getDeclaredFields()) {
            if (!Modifier.isPrivate(f.getModifiers())) {
                members.add((Modifier.isStatic(f.getModifiers()) ? "static " : "")
                        + (Modifier.isFinal(f.getModifiers()) ? "final " : "") + f.getType() + " " + f.getName());
            }
        }
        for (Constructor<?> c : OppositeHouse.class.getDeclaredConstructors()) {
            if (!Modifier.isPrivate(c.getModifiers())) {
                members.add("OppositeHouse" + given(c.getParameterTypes()));
            }
        }
        for (Method m : OppositeHouse.class.getDeclaredMethods()) {
            if (!Modifier.isPrivate(m.getModifiers())) {
                members.add(m.getReturnType() + " " + m.getName() + given(m.getParameterTypes()));
            }
        }
        return members;
    }

    private static String given(Class<?>[] types) {
        List<String> names = new ArrayList<>();
        for (Class<?> type : types) {
            names.add(type.getSimpleName());
        }
        return "(" + String.join(", ", names) + ")";
    }

    private static void page() throws Exception {
        StringBuilder shown = new StringBuilder();
        for (List<String> block : Examples.blocksOf(Files.readAllLines(PAGE))) {
            shown.append(String.join("\n", block)).append('\n');
        }
        for (Method m : OppositeHouse.class.getDeclaredMethods()) {
            if (Modifier.isPublic(m.getModifiers())) {
                Due.isTrue("README.md shows " + m.getName(),
                        Pattern.compile("\\b[xy]\\." + m.getName() + "\\(").matcher(shown).find());
            }
        }
        for (int code : CODES) {
            Due.isTrue("README.md shows a call that answers " + code,
                    Pattern.compile("; *// " + code + "(:|\n)").matcher(shown).find());
        }
    }
}
