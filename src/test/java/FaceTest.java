import java.io.IOException;
import java.lang.reflect.Constructor;
import java.lang.reflect.Field;
import java.lang.reflect.Method;
import java.lang.reflect.Modifier;
import java.nio.file.Files;
import java.nio.file.Path;
import java.util.ArrayList;
import java.util.List;
import java.util.Set;
import java.util.TreeSet;

/** The class has the face that stands in the document, all of it and nothing else, and each promise is a part of it. */
public final class FaceTest {
    private static final Path DOCUMENT = Path.of("../shared/DOC.md");
    private static final String MODIFIERS = "public static final ";
    private static int wrong = 0;

    public static void main(String[] args) throws IOException, IllegalAccessException {
        List<String> lines = Files.readAllLines(DOCUMENT);
        List<String> face = toldFace(lines);
        due("the class", head(), face.isEmpty() ? "no face" : face.get(0));
        Set<String> told = new TreeSet<>();
        for (String member : face.subList(Math.min(1, face.size()), face.size())) {
            told.add(withoutNames(member));
        }
        dueSet("members", openMembers(), told);
        Set<String> promised = promisedMembers(lines);
        due("the promises", promised.size(), 43);
        for (String member : told) {
            if (!member.startsWith(MODIFIERS)) {
                due("a promise of " + member, promised.contains(member), true);
            }
        }
        System.out.println(wrong == 0 ? "the face is the document's" : wrong + " parts of the face are wrong");
        System.exit(wrong == 0 ? 0 : 1);
    }

    private static void due(String what, Object got, Object want) {
        if (!got.equals(want)) {
            wrong++;
            System.out.println(what + ": is " + got + ", due is " + want);
        }
    }

    private static void dueSet(String what, Set<String> got, Set<String> want) {
        Set<String> missing = new TreeSet<>(want);
        missing.removeAll(got);
        Set<String> extra = new TreeSet<>(got);
        extra.removeAll(want);
        due(what + " that are missing", missing, Set.of());
        due(what + " that should not be", extra, Set.of());
    }

    /** The lines of the document's Java block without their signs at the end. */
    private static List<String> toldFace(List<String> lines) {
        List<String> face = new ArrayList<>();
        int begin = lines.indexOf("```java") + 1;
        for (int i = begin; i < lines.size() && !lines.get(i).equals("}"); i++) {
            face.add(lines.get(i).replaceAll("[;{]$", "").trim());
        }
        return face;
    }

    /** A call without the names of its parameters: the document and the class may name them as they like. */
    private static String withoutNames(String member) {
        return member.replaceAll("(int|long) \\w+(?=[,)])", "$1");
    }

    private static Set<String> promisedMembers(List<String> lines) {
        Set<String> members = new TreeSet<>();
        for (int i = 0; i + 2 < lines.size(); i++) {
            String told = lines.get(i + 2);
            if (lines.get(i).startsWith("## Promise ") && told.startsWith("`") && told.indexOf('`', 1) > 0) {
                members.add(withoutNames("public " + told.substring(1, told.indexOf('`', 1))));
            }
        }
        return members;
    }

    private static String head() {
        return Modifier.toString(ThatchNext.class.getModifiers()) + " class " + ThatchNext.class.getName();
    }

    private static Set<String> openMembers() throws IllegalAccessException {
        Set<String> members = new TreeSet<>();
        for (Constructor<?> made : ThatchNext.class.getDeclaredConstructors()) {
            add(members, made.getModifiers(), "ThatchNext" + parameters(made.getParameterTypes()));
        }
        for (Method call : ThatchNext.class.getDeclaredMethods()) {
            String name = call.getReturnType() + " " + call.getName() + parameters(call.getParameterTypes());
            add(members, call.getModifiers(), name);
        }
        for (Field field : ThatchNext.class.getDeclaredFields()) {
            if (!Modifier.isPrivate(field.getModifiers())) {
                String value = Modifier.isStatic(field.getModifiers()) ? " = " + field.get(null) : "";
                add(members, field.getModifiers(), field.getType() + " " + field.getName() + value);
            }
        }
        return members;
    }

    private static void add(Set<String> members, int modifiers, String member) {
        if (!Modifier.isPrivate(modifiers)) {
            members.add((Modifier.toString(modifiers) + " " + member).trim());
        }
    }

    private static String parameters(Class<?>[] types) {
        List<String> names = new ArrayList<>();
        for (Class<?> type : types) {
            names.add(type.getName());
        }
        return "(" + String.join(", ", names) + ")";
    }
}
