import java.lang.reflect.Constructor;
import java.lang.reflect.Field;
import java.lang.reflect.Method;
import java.lang.reflect.Modifier;
import java.nio.file.Files;
import java.nio.file.Path;
import java.util.Set;
import java.util.TreeSet;

/** The face of the document, and those rules of LANGUAGE.md that words and shapes can show. */
public final class LanguageTest {
    private static final Set<String> FACE = Set.of("row/3", "set/3", "copy/5", "drop/1", "feed/1", "hill/0", "fault/0",
            "years/1", "plant/2", "fell/1", "carry/2", "undo/0", "tree/2", "house/2", "place/2", "light/2", "lives/3",
            "next/1", "best/3", "toFell/4", "seen/2", "planted/4", "hidden/5", "storms/5", "image/1", "restore/1",
            "kind/1", "as/2", "ask/2", "trace/1", "count/1", "status/0");
    private static final String[] NO_WORDS = {"throw", "throws", "try", "catch", "finally", "synchronized", "assert",
        "double", "float", "Exact", "lambda", "Random", "Thread", "volatile", "transient", "native", "equals", "hashCode"};

    public static void main(String[] args) throws Exception {
        face();
        constants();
        nested();
        if (args.length > 0) {
            words(Files.readString(Path.of(args[0])));
        }
        Due.end();
    }

    private static void face() {
        Set<String> shown = new TreeSet<>();
        for (Method m : SunHouses.class.getDeclaredMethods()) {
            String name = m.getName() + "/" + m.getParameterCount();
            boolean hidden = Modifier.isPrivate(m.getModifiers());
            if (!hidden) {
                shown.add(name);
                Due.isTrue(name + " answers an int", m.getReturnType() == int.class);
                Due.isTrue(name + " is public", Modifier.isPublic(m.getModifiers()));
            }
            Due.isTrue(name + " has seven parameters at most", m.getParameterCount() <= 7);
            Due.isTrue(name + " is private and bears a public name", !hidden || FACE.stream()
                    .noneMatch(f -> f.startsWith(m.getName() + "/")));
        }
        Due.isTrue("the face, no more and no less: " + shown, shown.equals(new TreeSet<>(FACE)));
        Due.isTrue("final", Modifier.isFinal(SunHouses.class.getModifiers()));
        for (Constructor<?> c : SunHouses.class.getDeclaredConstructors()) {
            Due.isTrue("one constructor", Modifier.isPublic(c.getModifiers()) && c.getParameterCount() == 0);
        }
    }

    private static void constants() {
        Due.is("NONE", SunHouses.NONE, -1000000);
        Due.is("BAD", SunHouses.BAD, -1000001);
        Due.is("STATE", SunHouses.STATE, -1000002);
        Due.is("FULL", SunHouses.FULL, -1000003);
        Set<String> shown = new TreeSet<>();
        for (Field f : SunHouses.class.getDeclaredFields()) {
            if (!Modifier.isPrivate(f.getModifiers())) {
                shown.add(f.getName());
            }
        }
        Due.isTrue("constants " + shown, shown.equals(new TreeSet<>(Set.of("NONE", "BAD", "STATE", "FULL"))));
    }

    private static void nested() {
        Class<?>[] inside = SunHouses.class.getDeclaredClasses();
        Due.isTrue("twelve classes at most", inside.length < 12);
        for (Class<?> c : inside) {
            int fields = 0;
            for (Field f : c.getDeclaredFields()) {
                boolean fixed = Modifier.isStatic(f.getModifiers());
                fields += fixed ? 0 : 1;
                Due.isTrue(c + "." + f.getName() + " is final", !fixed || Modifier.isFinal(f.getModifiers()));
            }
            Due.isTrue(c + " has twenty fields at most", fields <= 20);
            Due.isTrue(c + " is static and not public",
                    Modifier.isStatic(c.getModifiers()) && !Modifier.isPublic(c.getModifiers()));
            for (Method m : c.getDeclaredMethods()) {
                Due.isTrue(c + "." + m.getName() + " bears a public name", FACE.stream()
                        .noneMatch(f -> f.startsWith(m.getName() + "/")));
            }
        }
    }

    private static void words(String source) {
        StringBuilder code = new StringBuilder();
        for (String line : source.split("\n")) {
            String bare = line.strip();
            if (!bare.startsWith("//") && !bare.startsWith("/**") && !bare.startsWith("*")) {
                code.append(line).append('\n');
            }
            Due.isTrue("signs of ASCII alone: " + line, line.chars().allMatch(ch -> ch < 128));
        }
        for (String word : NO_WORDS) {
            Due.isTrue("without the word " + word,
                    !java.util.regex.Pattern.compile("\\b" + word + "\\b").matcher(code).find());
        }
        Due.isTrue("no lambda, no method reference", code.indexOf("->") < 0 && code.indexOf("::") < 0);
        Due.isTrue("no package", code.indexOf("package ") < 0);
        for (String line : code.toString().split("\n")) {
            Due.isTrue("no library but Arrays: " + line,
                    !line.startsWith("import") || line.equals("import java.util.Arrays;"));
        }
    }
}
