import java.io.IOException;
import java.lang.reflect.Field;
import java.lang.reflect.Method;
import java.lang.reflect.Modifier;
import java.nio.file.Files;
import java.nio.file.Path;
import java.util.ArrayList;
import java.util.HashSet;
import java.util.List;
import java.util.Set;
import java.util.regex.Matcher;
import java.util.regex.Pattern;

/** What can be seen from outside of the rules in ../shared/LANGUAGE.md, by their numbers. */
public final class LanguageTest {
    private static final Path SOURCE = Path.of("src/main/java/ThatchNext.java");
    private static final Set<String> LIBRARY =
        Set.of("String", "StringBuilder", "Integer", "Long", "Math", "System", "Arrays", "ArrayList", "List");
    private static final Set<String> STATEMENTS = Set.of("if", "for", "while", "switch", "return");
    private static final Set<String> LIBRARY_CALLS =
        Set.of("min", "max", "abs", "compare", "bitCount", "floorDiv", "floorMod", "numberOfTrailingZeros", "arraycopy",
            "copyOf", "copyOfRange", "fill", "clone", "length", "charAt");
    private static final Pattern HEAD =
        Pattern.compile("^ {4,8}(?:(?:public|private|static|final) )*[\\w\\[\\]]+ (\\w+)\\([^;={]*\\) \\{$");
    private static final Pattern CALL = Pattern.compile("(\\.)?\\b(\\w+)\\(");
    private static int wrong = 0;

    /** A method as its lines tell it: where it stands, its name, and all between its braces. */
    private record Written(String owner, String name, List<String> body) { }

    public static void main(String[] args) throws IOException {
        List<String> lines = withoutCommentsAndTexts(Files.readAllLines(SOURCE));
        List<Class<?>> classes = new ArrayList<>(List.of(ThatchNext.class.getDeclaredClasses()));
        classes.add(ThatchNext.class);
        namesOfPublicCalls(classes);
        nestedClasses(classes);
        staticFields(classes);
        library(lines, classes);
        words(lines);
        sizes(classes);
        List<Written> methods = writtenMethods(lines);
        lengths(methods);
        depths(methods);
        System.out.println(wrong == 0 ? "the rules hold" : wrong + " rules are broken");
        System.exit(wrong == 0 ? 0 : 1);
    }

    private static void rule(int number, String what, boolean holds) {
        if (!holds) {
            wrong++;
            System.out.println("rule " + number + ": " + what);
        }
    }

    private static List<String> withoutCommentsAndTexts(List<String> lines) {
        List<String> stripped = new ArrayList<>();
        boolean isComment = false;
        for (String line : lines) {
            String rest = line.replaceAll("\"[^\"]*\"", "\"\"").replaceAll("'[^']*'", "''").replaceAll("//.*", "");
            isComment |= rest.trim().startsWith("/*");
            stripped.add(isComment ? "" : rest.stripTrailing());
            isComment &= !rest.contains("*/");
        }
        return stripped;
    }

    private static void namesOfPublicCalls(List<Class<?>> classes) {
        Set<String> open = new HashSet<>();
        for (Method call : ThatchNext.class.getMethods()) {
            open.add(call.getName());
        }
        for (Class<?> owner : classes) {
            for (Method method : owner.getDeclaredMethods()) {
                boolean isFace = owner == ThatchNext.class && Modifier.isPublic(method.getModifiers());
                rule(1, method + " bears a public name", isFace || !open.contains(method.getName()));
            }
        }
    }

    private static void nestedClasses(List<Class<?>> classes) {
        for (Class<?> nested : classes) {
            int modifiers = nested.getModifiers();
            boolean isOuter = nested == ThatchNext.class;
            rule(1, nested + " is open", isOuter || !Modifier.isPublic(modifiers) && !Modifier.isProtected(modifiers));
            rule(2, nested + " is not static", isOuter || Modifier.isStatic(modifiers));
            rule(2, nested + " has classes inside", isOuter || nested.getDeclaredClasses().length == 0);
        }
    }

    private static void staticFields(List<Class<?>> classes) {
        Set<Class<?>> allowed = Set.of(int.class, long.class, boolean.class, char.class, String.class,
            int[].class, long[].class, char[].class, byte[].class);
        for (Class<?> owner : classes) {
            for (Field field : owner.getDeclaredFields()) {
                boolean isConstant = Modifier.isFinal(field.getModifiers()) && allowed.contains(field.getType());
                rule(5, field + " is static", isConstant || !Modifier.isStatic(field.getModifiers()));
            }
        }
    }

    private static void library(List<String> lines, List<Class<?>> classes) {
        Set<String> known = new HashSet<>(LIBRARY);
        for (Class<?> own : classes) {
            known.add(own.getSimpleName());
        }
        Matcher name = Pattern.compile("\\b[A-Z]\\w*[a-z]\\w*").matcher(String.join("\n", lines));
        while (name.find()) {
            rule(4, name.group() + " is used", known.contains(name.group()));
        }
    }

    private static void words(List<String> lines) {
        String all = String.join("\n", lines);
        String refused = "throw|throws|try|catch|finally|synchronized|assert|volatile|native|hashCode|toString|getClass";
        for (String word : refused.split("\\|")) {
            rule(6, word + " is used", !Pattern.compile("\\b" + word + "\\b").matcher(all).find());
        }
        rule(2, "a lambda", !all.contains("->"));
        rule(2, "a method reference", !all.contains("::"));
        rule(3, "an import or a package", !Pattern.compile("(?m)^(import|package)\\b").matcher(all).find());
        rule(4, "a function whose name ends in Exact", !Pattern.compile("\\w+Exact\\(").matcher(all).find());
        rule(5, "a static block", !Pattern.compile("static \\{").matcher(all).find());
    }

    private static void sizes(List<Class<?>> classes) {
        rule(11, classes.size() + " classes", classes.size() <= 12);
        for (Class<?> owner : classes) {
            int fields = 0;
            for (Field field : owner.getDeclaredFields()) {
                fields += Modifier.isStatic(field.getModifiers()) ? 0 : 1;
            }
            rule(11, owner + " has " + fields + " fields", fields <= 20);
            for (Method method : owner.getDeclaredMethods()) {
                rule(11, method + " takes too much", method.getParameterCount() <= 7);
            }
        }
    }

    /** Heads stand on one line, and a method ends at the brace that stands as far to the right as its head. */
    private static List<Written> writtenMethods(List<String> lines) {
        List<Written> methods = new ArrayList<>();
        String owner = "ThatchNext";
        for (int i = 0; i < lines.size(); i++) {
            Matcher nested = Pattern.compile("^    private static final class (\\w+) ").matcher(lines.get(i));
            Matcher head = HEAD.matcher(lines.get(i));
            if (nested.find()) {
                owner = nested.group(1);
            } else if (head.find()) {
                String end = lines.get(i).replaceAll("\\S.*", "") + "}";
                int last = i + 1;
                while (last < lines.size() && !lines.get(last).equals(end)) {
                    last++;
                }
                methods.add(new Written(owner, head.group(1), lines.subList(i + 1, last)));
            }
        }
        return methods;
    }

    private static void lengths(List<Written> methods) {
        int declared = ThatchNext.class.getDeclaredConstructors().length + ThatchNext.class.getDeclaredMethods().length;
        for (Class<?> nested : ThatchNext.class.getDeclaredClasses()) {
            declared += nested.getDeclaredMethods().length;
        }
        rule(11, methods.size() + " methods are found, not " + declared, methods.size() == declared);
        for (Written method : methods) {
            rule(11, method.name() + " is long", method.body().size() <= 60);
        }
    }

    private static void depths(List<Written> methods) {
        for (Written method : methods) {
            List<String> chain = longestChain(method, methods, new ArrayList<>());
            rule(11, "deeper than eight: " + chain, chain.size() <= 8);
        }
    }

    private static List<String> longestChain(Written method, List<Written> methods, List<Written> open) {
        List<String> longest = new ArrayList<>();
        open.add(method);
        for (Written called : calledBy(method, methods)) {
            if (!open.contains(called)) {
                List<String> chain = longestChain(called, methods, open);
                longest = chain.size() > longest.size() ? chain : longest;
            }
        }
        open.remove(method);
        longest.add(0, method.owner() + "." + method.name());
        return longest;
    }

    /** A call on another object may be of any class that has the name: so a chain may be told too long, not too short. */
    private static List<Written> calledBy(Written method, List<Written> methods) {
        List<Written> called = new ArrayList<>();
        Matcher call = CALL.matcher(String.join("\n", method.body()));
        while (call.find()) {
            boolean isOwn = call.group(1) == null;
            boolean isFound = false;
            for (Written other : methods) {
                boolean isNear = other.owner().equals(method.owner()) || other.owner().equals("ThatchNext");
                if (other.name().equals(call.group(2)) && (!isOwn || isNear)) {
                    isFound = true;
                    called.add(other);
                }
            }
            boolean isMade = Character.isUpperCase(call.group(2).charAt(0));
            boolean isLibrary = STATEMENTS.contains(call.group(2)) || LIBRARY_CALLS.contains(call.group(2));
            rule(4, call.group(2) + " is called", isFound || isMade || isLibrary);
        }
        return called;
    }
}
