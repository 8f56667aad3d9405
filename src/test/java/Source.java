import java.io.IOException;
import java.nio.file.Files;
import java.nio.file.Path;
import java.util.ArrayList;
import java.util.HashMap;
import java.util.List;
import java.util.Map;
import java.util.Set;
import java.util.TreeMap;
import java.util.TreeSet;
import java.util.regex.Matcher;
import java.util.regex.Pattern;

/** The source of the class without its comments and written texts, taken apart into methods and the calls in them. */
final class Source {

    /** A method with its body, braces included. */
    record Method(String owner, String name, String body) {
        String id() {
            return owner + "." + name;
        }
    }

    static final Path FILE = Path.of("src/main/java/PumpOaths.java");

    private static final Pattern COMMENT_OR_TEXT =
            Pattern.compile("//[^\n]*|(?s:/\\*.*?\\*/)|\"(?:[^\"\\\\\n]|\\\\.)*\"|'(?:[^'\\\\\n]|\\\\.)+'");
    private static final Pattern CLASS = Pattern.compile("\\bclass (\\w+)");
    private static final Pattern METHOD =
            Pattern.compile("(?m)^ +(?:(?:public|private|static|final) )*(?:[\\w\\[\\]]+ )?(\\w+)\\(([^()]*)\\)[^;{}()=]*\\{");
    private static final Pattern CALL = Pattern.compile("(?<![\\w.])((?:\\w+\\.)*)(\\w+)\\(");
    private static final Pattern ROW = Pattern.compile("(?m)^ +(?:private )?final (\\w+) (\\w+) = new \\1\\(\\);");
    private static final Set<String> NO_CALLS = Set.of("if", "for", "switch", "while", "return", "catch");

    final String whole;
    final String plain;
    final List<Method> methods = new ArrayList<>();
    /** The calls of the library, each as Class.method. */
    final Set<String> library = new TreeSet<>();
    /** The calls that could not be told. */
    final Set<String> unknown = new TreeSet<>();

    private final Map<String, String> kindOfField = new HashMap<>();
    private final Map<String, Integer> classStarts = new TreeMap<>();
    private final Map<String, Set<String>> callsOf = new TreeMap<>();

    Source() throws IOException {
        whole = Files.readString(FILE);
        plain = COMMENT_OR_TEXT.matcher(whole).replaceAll(found -> blank(found.group()));
        Matcher kinds = CLASS.matcher(plain);
        while (kinds.find()) {
            classStarts.put(kinds.group(1), kinds.start());
        }
        Matcher rows = ROW.matcher(plain);
        while (rows.find()) {
            kindOfField.put(rows.group(2), rows.group(1));
        }
        findMethods();
        for (Method method : methods) {
            findCalls(method);
        }
    }

    Set<String> classes() {
        return classStarts.keySet();
    }

    /** How many calls stand open at once at the most, this one included; a call in a circle counts without end. */
    int depth(String id) {
        return depth(id, new ArrayList<>());
    }

    private int depth(String id, List<String> open) {
        if (open.contains(id)) {
            return Integer.MAX_VALUE / 2;
        }
        open.add(id);
        int deepest = 0;
        for (String inner : callsOf.getOrDefault(id, Set.of())) {
            deepest = Math.max(deepest, depth(inner, open));
        }
        open.remove(id);
        return 1 + deepest;
    }

    /** Keeps the lines; of a written text or sign its marks are left. */
    private static String blank(String found) {
        char first = found.charAt(0);
        if (first == '/') {
            return found.replaceAll("[^\n]", "");
        }
        return first == '"' ? "\"\"" : "'c'";
    }

    private void findMethods() {
        Matcher heads = METHOD.matcher(plain);
        while (heads.find()) {
            if (!NO_CALLS.contains(heads.group(1))) {
                int end = closing(heads.end() - 1);
                methods.add(new Method(ownerAt(heads.start()), heads.group(1), plain.substring(heads.end() - 1, end)));
            }
        }
    }

    private int closing(int open) {
        int depth = 0;
        for (int at = open; at < plain.length(); at++) {
            depth += plain.charAt(at) == '{' ? 1 : plain.charAt(at) == '}' ? -1 : 0;
            if (depth == 0) {
                return at + 1;
            }
        }
        return plain.length();
    }

    /** The last class that begins before it: the outer class has no method behind its inner ones. */
    private String ownerAt(int place) {
        String owner = "";
        int latest = -1;
        for (Map.Entry<String, Integer> entry : classStarts.entrySet()) {
            if (entry.getValue() < place && entry.getValue() > latest) {
                owner = entry.getKey();
                latest = entry.getValue();
            }
        }
        return owner;
    }

    private boolean hasMethod(String owner, String name) {
        return methods.stream().anyMatch(method -> method.owner.equals(owner) && method.name.equals(name));
    }

    private void findCalls(Method method) {
        Matcher calls = CALL.matcher(method.body);
        while (calls.find()) {
            boolean isNew = method.body.substring(0, calls.start()).endsWith("new ");
            if (!isNew && !NO_CALLS.contains(calls.group(2))) {
                addCall(method, calls.group(1), calls.group(2));
            }
        }
    }

    private void addCall(Method method, String before, String name) {
        String[] path = before.split("\\.");
        String last = path[path.length - 1];
        String owner = last.isEmpty() ? method.owner : classes().contains(last) ? last : kindOfField.get(last);
        if (owner != null && hasMethod(owner, name)) {
            callsOf.computeIfAbsent(method.id(), id -> new TreeSet<>()).add(owner + "." + name);
        } else if (owner == null && Character.isUpperCase(last.charAt(0))) {
            library.add(last + "." + name);
        } else {
            unknown.add(method.id() + " calls " + before + name);
        }
    }
}
