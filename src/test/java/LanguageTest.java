import java.io.IOException;
import java.lang.reflect.Constructor;
import java.lang.reflect.Executable;
import java.lang.reflect.Field;
import java.lang.reflect.Method;
import java.lang.reflect.Modifier;
import java.nio.file.Files;
import java.nio.file.Path;
import java.util.ArrayList;
import java.util.List;
import java.util.Set;
import java.util.regex.Matcher;
import java.util.regex.Pattern;
import java.util.stream.Stream;

/** The rules of LANGUAGE.md that can be seen in the source or in the compiled class; FaceTest has the first one. */
public final class LanguageTest {

    private static final String FILE = "PumpOaths.java";
    private static final Set<String> CONSTANT_KINDS =
            Set.of("int", "long", "boolean", "char", "String", "int[]", "long[]", "char[]", "byte[]");
    private static final Set<String> KINDS = Set.of("void", "int", "long", "boolean", "double", "int[]", "long[]");
    private static final Set<String> LIBRARY = Set.of("Math.max", "Math.min", "System.arraycopy");
    private static final String[] FORBIDDEN = {
        "import", "package", "try", "catch", "finally", "synchronized", "assert", "throws Exception", "->", "::", "Exact",
        "getClass", "getMessage", "hashCode", "toString", "Object", "native", "var", "while", "do", "protected",
    };

    public static void main(String[] args) throws IOException {
        Source source = new Source();
        oneFile(source);
        List<Class<?>> all = classes();
        classesInside(source, all);
        for (Class<?> kind : all) {
            fields(kind);
            methods(kind);
        }
        words(source);
        library(source);
        exceptions(source);
        divisors(source);
        loops(source);
        texts(source);
        sizes(source);
        allMethods(source, all);
        depths(source);
        newObjects(source);
        Check.close("LanguageTest");
    }

    /** "The program is one file, src/main/java/PumpOaths.java" */
    private static void oneFile(Source source) throws IOException {
        try (Stream<Path> paths = Files.walk(Path.of("src/main"))) {
            List<Path> files = paths.filter(Files::isRegularFile).toList();
            Check.holds("one file, and not " + files, files.equals(List.of(Path.of("src/main/java", FILE))));
        }
        Check.holds("constants whose signs are 1 to 127", source.whole.chars().allMatch(sign -> sign > 0 && sign < 128));
    }

    private static List<Class<?>> classes() {
        List<Class<?>> all = new ArrayList<>();
        all.add(PumpOaths.class);
        for (int i = 0; i < all.size(); i++) {
            all.addAll(List.of(all.get(i).getDeclaredClasses()));
        }
        return all;
    }

    /** Rules 2 and 11: static classes inside, none without a name, "some twelve" of them. */
    private static void classesInside(Source source, List<Class<?>> all) {
        Check.same("classes in the source and in the compiled class", source.classes().size(), all.size());
        Check.holds("some twelve classes", all.size() <= 12);
        for (Class<?> kind : all.subList(1, all.size())) {
            Check.holds(kind + " is static", Modifier.isStatic(kind.getModifiers()));
        }
    }

    private static boolean isOwn(Class<?> kind) {
        return kind.getName().startsWith("PumpOaths");
    }

    /** Rules 3, 5 and 11: kinds of fields, static ones final, "some twenty fields beside its constants". */
    private static void fields(Class<?> kind) {
        int count = 0;
        for (Field field : kind.getDeclaredFields()) {
            String name = field.getType().getSimpleName();
            if (Modifier.isStatic(field.getModifiers())) {
                Check.holds(field + " is a constant", Modifier.isFinal(field.getModifiers()) && CONSTANT_KINDS.contains(name));
            } else {
                count++;
                Check.holds(field + " is of a kind of rule 3", KINDS.contains(name) || isOwn(field.getType()));
            }
        }
        Check.holds(kind + " has some twenty fields", count <= 20);
    }

    private static void methods(Class<?> kind) {
        for (Method method : kind.getDeclaredMethods()) {
            Check.holds(method + " is no lambda and no bridge", !method.isSynthetic());
            parameters(method);
            Check.holds(method + " answers a kind of rule 3",
                    KINDS.contains(method.getReturnType().getSimpleName()) || isOwn(method.getReturnType()));
        }
        for (Constructor<?> made : kind.getDeclaredConstructors()) {
            parameters(made);
        }
    }

    /** "A method takes at most seven parameters." */
    private static void parameters(Executable method) {
        Check.holds(method + " takes at most seven", method.getParameterCount() <= 7);
        for (Class<?> parameter : method.getParameterTypes()) {
            Check.holds(method + " takes kinds of rule 3", KINDS.contains(parameter.getSimpleName()) || isOwn(parameter));
        }
    }

    private static void words(Source source) {
        for (String word : FORBIDDEN) {
            boolean isWord = Character.isLetter(word.charAt(0));
            Matcher found = Pattern.compile(isWord ? "\\b" + word + "\\b" : word).matcher(source.plain);
            Check.holds("no " + word + " in the source", !found.find());
        }
    }

    /** Rules 4 and 13: no more of the library than the class uses now; that a call can't be told is a fault, too. */
    private static void library(Source source) {
        Check.holds("calls of the library " + source.library, LIBRARY.containsAll(source.library));
        Check.holds("calls that can be told, and not " + source.unknown, source.unknown.isEmpty());
    }

    /** Rule 6: throw new E("a written text"), none in a constructor. */
    private static void exceptions(Source source) {
        Matcher thrown = Pattern.compile("\\bthrow\\b([^;]*);").matcher(source.plain);
        while (thrown.find()) {
            Check.holds("a throw of rule 6 and not" + thrown.group(1), thrown.group(1)
                    .matches(" new (IllegalState|IllegalArgument|IndexOutOfBounds)Exception\\(\"\"\\)"));
        }
        for (Source.Method method : source.methods) {
            boolean isConstructor = method.name().equals(method.owner());
            Check.holds(method.id() + " throws nothing while it makes", !isConstructor || !method.body().contains("throw"));
        }
    }

    /** Rule 7: each divisor is a constant; only honesty divides by starts, and looks at them before. */
    private static void divisors(Source source) {
        Matcher divided = Pattern.compile("[/%]=? *(\\(double\\) \\w+|[^ ;,)]+)").matcher(source.plain);
        int found = 0;
        while (divided.find()) {
            String divisor = divided.group(1);
            Check.holds("a divisor that is not 0: " + divisor, divisor.matches("[A-Z_]+|\\(double\\) starts"));
            found++;
        }
        Check.holds("divisors were found", found > 3);
    }

    /** Rule 9: "Every loop has an end that can be seen from its own lines". */
    private static void loops(Source source) {
        Matcher loops = Pattern.compile("\\bfor \\((.*)\\) \\{").matcher(source.plain);
        int found = 0;
        while (loops.find()) {
            Check.holds("a counter against a bound: " + loops.group(1),
                    loops.group(1).matches("int (\\w+) = \\w+; \\1 <=? [^;]+; \\1\\+\\+"));
            found++;
        }
        Check.same("loops", found, source.plain.split("\\bfor\\b", -1).length - 1);
    }

    /** Rule 10: texts stand in what is thrown alone, so that none is joined. */
    private static void texts(Source source) {
        int all = source.plain.split("\"\"", -1).length - 1;
        int thrown = source.plain.split("Exception\\(\"\"\\);", -1).length - 1;
        Check.same("written texts that are thrown", thrown, all);
    }

    /** "Methods stay short (some sixty lines)" */
    private static void sizes(Source source) {
        for (Source.Method method : source.methods) {
            Check.holds(method.id() + " is short", method.body().lines().count() <= 60);
        }
    }

    /** What is looked at in the source is all that there is. */
    private static void allMethods(Source source, List<Class<?>> all) {
        int compiled = 0;
        for (Class<?> kind : all) {
            compiled += kind.getDeclaredMethods().length;
        }
        long read = source.methods.stream().filter(method -> !method.name().equals(method.owner())).count();
        Check.same("methods in the source", read, compiled);
    }

    /** "calls that are no recursion go at most eight deep" */
    private static void depths(Source source) {
        int deepest = 0;
        for (Source.Method method : source.methods) {
            int depth = source.depth(method.id());
            Check.holds(method.id() + " goes " + depth + " deep", depth <= 8);
            deepest = Math.max(deepest, depth);
        }
        Check.holds("calls of calls of calls were found", deepest > 3);
    }

    /** Rule 12: what a run makes is made with the object; a call makes nothing but what it throws. */
    private static void newObjects(Source source) {
        Matcher made = Pattern.compile("(?m)^(.*)\\bnew ").matcher(source.plain);
        while (made.find()) {
            Check.holds("made with the object: " + made.group(),
                    made.group(1).matches(" +throw | {4,8}(private )?final [\\w\\[\\]]+ \\w+ = "));
        }
    }
}
