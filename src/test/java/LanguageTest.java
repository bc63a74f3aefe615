import java.lang.reflect.Constructor;
import java.lang.reflect.Field;
import java.lang.reflect.Method;
import java.lang.reflect.Modifier;
import java.nio.file.Files;
import java.nio.file.Path;
import java.util.ArrayList;
import java.util.List;
import java.util.Set;
import java.util.TreeSet;
import java.util.regex.Matcher;
import java.util.regex.Pattern;

/** The rules of LANGUAGE.md that can be seen in the source and in the classes. */
final class LanguageTest {
    private static final Path SOURCE = Path.of("src/main/java/OppositeHouse.java");
    private static final Set<String> LIBRARY = Set.of("length", "charAt", "isEmpty", "equals", "indexOf", "substring",
            "toCharArray", "append", "setCharAt", "setLength", "deleteCharAt", "reverse", "toString", "add", "get", "set",
            "remove", "size", "clear", "compare", "max", "min", "abs", "bitCount", "floorDiv", "floorMod", "arraycopy",
            "copyOf", "copyOfRange", "fill", "clone");

    private LanguageTest() {
    }

    public static void main(String[] args) throws Exception {
        // Strings, signs and comments aside, so that words in them don't count.
        String code = Files.readString(SOURCE).replaceAll("/\\*(?s:.*?)\\*/", "").replaceAll("//[^\n]*", "")
                .replaceAll("\"[^\"\n]*\"", "\"\"").replaceAll("'[^'\n]'", "' '");
        forbiddenWords(code);
        library(code);
        face();
        nestedClasses();
        methods(code);
        Due.end();
    }

    private static void forbiddenWords(String code) {
        for (String word : new String[] {"throw", "throws", "try", "catch", "synchronized", "assert", "package", "goto",
            "Object", "Random", "Thread", "hashCode", "Exact", "var", "strictfp", "volatile", "native"}) {
            Due.isTrue("no " + word, !Pattern.compile("\\b" + word + "\\b").matcher(code).find());
        }
        Due.isTrue("no lambda, no arrow", !code.contains("->"));
        Due.isTrue("no method reference", !code.contains("::"));
        Matcher imports = Pattern.compile("import ([^;]*);").matcher(code);
        while (imports.find()) {
            Due.isTrue("import " + imports.group(1), imports.group(1).equals("java.util.Arrays"));
        }
        for (char c : code.toCharArray()) {
            if (c > 127) {
                Due.isTrue("signs of 1 to 127", false);
            }
        }
    }

    /** Of classes that aren't its own the program calls just what the rules list. */
    private static void library(String code) {
        Set<String> own = new TreeSet<>();
        for (Class<?> c : classes()) {
            for (Method m : c.getDeclaredMethods()) {
                own.add(m.getName());
            }
        }
        Matcher calls = Pattern.compile("\\.([a-zA-Z]+)\\(").matcher(code);
        while (calls.find()) {
            String name = calls.group(1);
            Due.isTrue("call of " + name, own.contains(name) || LIBRARY.contains(name));
        }
    }

    private static List<Class<?>> classes() {
        List<Class<?>> all = new ArrayList<>();
        all.add(OppositeHouse.class);
        all.addAll(List.of(OppositeHouse.class.getDeclaredClasses()));
        return all;
    }

    private static void face() {
        Set<String> open = new TreeSet<>();
        for (Method m : OppositeHouse.class.getDeclaredMethods()) {
            Due.isTrue(m.getName() + " is public or private",
                    Modifier.isPublic(m.getModifiers()) || Modifier.isPrivate(m.getModifiers()));
            if (Modifier.isPublic(m.getModifiers())) {
                open.add(m.getName());
            }
        }
        Due.is("public methods", open.size(), 43);
        for (Class<?> c : classes()) {
            for (Method m : c.getDeclaredMethods()) {
                Due.isTrue(c.getSimpleName() + "." + m.getName() + " bears no public one's name",
                        c == OppositeHouse.class && Modifier.isPublic(m.getModifiers()) || !open.contains(m.getName()));
            }
        }
        for (Field f : OppositeHouse.class.getDeclaredFields()) {
            Due.isTrue(f.getName() + " is private", f.getName().equals("NONE") || Modifier.isPrivate(f.getModifiers()));
        }
        for (Constructor<?> c : OppositeHouse.class.getDeclaredConstructors()) {
            Due.isTrue("the constructor is public", Modifier.isPublic(c.getModifiers()) && c.getParameterCount() == 0);
        }
        Due.isTrue("public and final", Modifier.isPublic(OppositeHouse.class.getModifiers())
                && Modifier.isFinal(OppositeHouse.class.getModifiers()));
    }

    private static void nestedClasses() {
        Due.isTrue("some twelve classes at most", classes().size() <= 12);
        for (Class<?> c : classes()) {
            if (c != OppositeHouse.class) {
                Due.isTrue(c.getSimpleName() + " is static", Modifier.isStatic(c.getModifiers()));
            }
            int fields = 0;
            for (Field f : c.getDeclaredFields()) {
                if (Modifier.isStatic(f.getModifiers())) {
                    Due.isTrue(f.getName() + " is a constant", Modifier.isFinal(f.getModifiers())
                            && (f.getType() == int.class || f.getType() == String.class));
                } else {
                    fields++;
                }
            }
            Due.isTrue(c.getSimpleName() + " has some twenty fields at most", fields <= 20);
            for (Method m : c.getDeclaredMethods()) {
                Due.isTrue(m.getName() + " takes at most seven", m.getParameterCount() <= 7);
            }
        }
    }

    /** A method begins and ends at the same depth; none is longer than some sixty lines. */
    private static void methods(String code) {
        String[] lines = code.split("\n");
        Pattern start = Pattern.compile("^( {4}| {8})[a-zA-Z].*\\) \\{$");
        for (int i = 0; i < lines.length; i++) {
            Matcher m = start.matcher(lines[i]);
            if (m.find() && !lines[i].contains(" class ")) {
                int end = i;
                while (!lines[end].equals(m.group(1) + "}")) {
                    end++;
                }
                Due.isTrue("short enough: " + lines[i].trim(), end - i < 60);
            }
        }
    }
}
