import java.io.IOException;
import java.lang.reflect.Constructor;
import java.lang.reflect.Field;
import java.lang.reflect.Member;
import java.lang.reflect.Method;
import java.lang.reflect.Modifier;
import java.nio.charset.StandardCharsets;
import java.nio.file.Files;
import java.nio.file.Path;
import java.util.ArrayDeque;
import java.util.ArrayList;
import java.util.Collections;
import java.util.Deque;
import java.util.IdentityHashMap;
import java.util.List;
import java.util.Set;
import java.util.TreeSet;
import java.util.regex.Matcher;
import java.util.regex.Pattern;

/** The face as DOC.md has it, and those rules of LANGUAGE.md that can be looked for. */
public final class LanguageTest {
    private static final Path SOURCE = Path.of("src/main/java/OtherPanes.java");
    private static final Path DOCUMENT = Path.of("../shared/DOC.md");

    private LanguageTest() {
    }

    public static void main(String[] args) throws IOException, ReflectiveOperationException {
        faceIsTheDocuments();
        classesInside();
        noNameTwice();
        forbiddenWords();
        parametersAndFields();
        statics();
        room();
        Checks.finish("LanguageTest");
    }

    // "The face: the class of the document, public and final, with the public constructor, methods
    // and constants of the document and no other public, protected or package-visible member"
    private static void faceIsTheDocuments() throws IOException, IllegalAccessException {
        Set<String> promised = new TreeSet<>();
        Matcher m = Pattern.compile("^    (public [^;]*);", Pattern.MULTILINE).matcher(read(DOCUMENT));
        while (m.find()) {
            promised.add(m.group(1).replaceAll(" [a-z]+([,)])", "$1"));
        }
        Set<String> found = new TreeSet<>();
        for (Member member : visibleMembers()) {
            found.add(described(member));
        }
        Checks.same("the face", String.join("\n", found), String.join("\n", promised));
        Checks.due("members of the face", found.size(), 45);
        Checks.due("public final", OtherPanes.class.getModifiers(), Modifier.PUBLIC | Modifier.FINAL);
    }

    private static List<Member> visibleMembers() {
        List<Member> members = new ArrayList<>();
        Collections.addAll(members, OtherPanes.class.getDeclaredMethods());
        Collections.addAll(members, OtherPanes.class.getDeclaredFields());
        Collections.addAll(members, OtherPanes.class.getDeclaredConstructors());
        members.removeIf(member -> Modifier.isPrivate(member.getModifiers()) || member.isSynthetic());
        return members;
    }

    private static String described(Member member) throws IllegalAccessException {
        String modifiers = Modifier.toString(member.getModifiers());
        if (member instanceof Field field) {
            return modifiers + " " + field.getType() + " " + field.getName() + " = " + field.get(null);
        }
        if (member instanceof Constructor<?> constructor) {
            return modifiers + " " + constructor.getName() + typesOf(constructor.getParameterTypes());
        }
        Method method = (Method) member;
        return modifiers + " " + method.getReturnType() + " " + method.getName() + typesOf(method.getParameterTypes());
    }

    private static String typesOf(Class<?>[] types) {
        List<String> names = new ArrayList<>();
        for (Class<?> type : types) {
            names.add(type.getName());
        }
        return "(" + String.join(", ", names) + ")";
    }

    // "the classes inside it, which are private or package-visible and static"; "the file has at most some twelve classes"
    private static void classesInside() {
        Class<?>[] inside = OtherPanes.class.getDeclaredClasses();
        for (Class<?> each : inside) {
            int modifiers = each.getModifiers();
            boolean isOpen = Modifier.isPublic(modifiers) || Modifier.isProtected(modifiers);
            Checks.due(each.getName() + " is static and not open", Modifier.isStatic(modifiers) && !isOpen, true);
            Checks.due("classes inside " + each.getName(), each.getDeclaredClasses().length, 0);
        }
        Checks.due("at most twelve classes", inside.length + 1 <= 12, true);
    }

    // "No private method bears the name of a public one."
    private static void noNameTwice() {
        Set<String> open = new TreeSet<>();
        for (Method method : OtherPanes.class.getMethods()) {
            open.add(method.getName());
        }
        for (Method method : OtherPanes.class.getDeclaredMethods()) {
            boolean isTwice = Modifier.isPrivate(method.getModifiers()) && open.contains(method.getName());
            Checks.due("a private " + method.getName(), isTwice, false);
        }
        for (Class<?> each : OtherPanes.class.getDeclaredClasses()) {
            for (Method method : each.getDeclaredMethods()) {
                Checks.due(each.getName() + "'s " + method.getName(), open.contains(method.getName()), false);
            }
        }
    }

    // "No throw, try, catch, synchronized, assert"; no lambda, no method reference, no outside library.
    private static void forbiddenWords() throws IOException {
        String code = read(SOURCE).replaceAll("(?s)/\\*.*?\\*/", " ").replaceAll("//[^\n]*", " ").replaceAll("\"[^\"\n]*\"", "\"\"");
        for (String word : List.of("throw", "throws", "try", "catch", "synchronized", "assert", "protected", "package",
            "equals", "hashCode", "toString", "Object", "Thread", "Random", "volatile", "native", "var", "instanceof")) {
            Checks.due("the word " + word, Pattern.compile("\\b" + word + "\\b").matcher(code).find(), false);
        }
        Checks.due("a lambda", code.contains("->"), false);
        Checks.due("a method reference", code.contains("::"), false);
        Matcher imports = Pattern.compile("\\bimport ([^;]*);").matcher(code);
        while (imports.find()) {
            Checks.same("an import", imports.group(1), "java.util.Arrays");
        }
        Set<String> library = Set.of("Arrays.fill", "Math.max", "Math.min", "Integer.bitCount", "System.arraycopy");
        Matcher calls = Pattern.compile("\\b(Arrays|Math|Integer|Long|System|String)\\.(\\w+)").matcher(code);
        while (calls.find()) {
            Checks.due("the library's " + calls.group(), library.contains(calls.group()), true);
        }
    }

    // "A method takes at most seven parameters"; "a class some twenty fields beside its constants"
    private static void parametersAndFields() {
        for (Class<?> each : allClasses()) {
            for (Method method : each.getDeclaredMethods()) {
                Checks.due(each.getName() + "'s " + method.getName() + ": few parameters", method.getParameterCount() <= 7, true);
            }
            int fields = 0;
            for (Field field : each.getDeclaredFields()) {
                fields += Modifier.isStatic(field.getModifiers()) ? 0 : 1;
            }
            Checks.due(each.getName() + ": few fields", fields <= 20, true);
        }
    }

    private static List<Class<?>> allClasses() {
        List<Class<?>> classes = new ArrayList<>(List.of(OtherPanes.class.getDeclaredClasses()));
        classes.add(OtherPanes.class);
        return classes;
    }

    // "Static fields are final: constants of int, long, boolean, char or String, .."
    private static void statics() {
        for (Class<?> each : allClasses()) {
            for (Field field : each.getDeclaredFields()) {
                if (Modifier.isStatic(field.getModifiers())) {
                    boolean isPlain = field.getType() == int.class || field.getType() == String.class;
                    Checks.due(each.getName() + "." + field.getName() + ": a constant", isPlain && Modifier.isFinal(field.getModifiers()), true);
                }
            }
        }
    }

    // "All calls of one run live in ONE room": what an object holds is made with it, and calls leave it no more.
    private static void room() throws ReflectiveOperationException {
        OtherPanes x = new OtherPanes();
        long atFirst = held(x);
        Checks.feed(x, "room a joy 1; room b joy 2; fact f of a at 3; tells a b; wants a b 3; rent joy + (day * 2);");
        Checks.due("quarter()", x.quarter(), 2);
        for (int i = 0; i < 60; i++) {
            x.hour();
            x.cast();
            x.glimpse(0, 1, false);
            x.image(i % 3);
            x.best();
            x.undo();
            x.ask(0, i);
        }
        Checks.due("objects and elements held", held(x), atFirst);
        Checks.due("few of them", atFirst < 6000, true);
    }

    private static long held(OtherPanes x) throws ReflectiveOperationException {
        IdentityHashMap<Object, Boolean> seen = new IdentityHashMap<>();
        Deque<Object> open = new ArrayDeque<>();
        open.add(x);
        long count = 0;
        while (!open.isEmpty()) {
            Object each = open.poll();
            if (seen.put(each, true) == null) {
                count += 1 + partsOf(each, open);
            }
        }
        return count;
    }

    private static long partsOf(Object each, Deque<Object> open) throws ReflectiveOperationException {
        if (each.getClass().isArray()) {
            int length = java.lang.reflect.Array.getLength(each);
            for (int i = 0; i < length && !each.getClass().getComponentType().isPrimitive(); i++) {
                open.add(java.lang.reflect.Array.get(each, i));
            }
            return length;
        }
        long fields = 0;
        for (Field field : each.getClass().getDeclaredFields()) {
            if (!Modifier.isStatic(field.getModifiers())) {
                fields++;
                field.setAccessible(true);
                if (!field.getType().isPrimitive()) {
                    open.add(field.get(each));
                }
            }
        }
        return fields;
    }

    private static String read(Path path) throws IOException {
        return Files.readString(path, StandardCharsets.UTF_8);
    }
}
