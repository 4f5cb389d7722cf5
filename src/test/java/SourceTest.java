import java.io.IOException;
import java.nio.file.Files;
import java.nio.file.Path;
import java.util.ArrayList;
import java.util.LinkedHashMap;
import java.util.List;
import java.util.Map;
import java.util.Set;
import java.util.TreeSet;
import java.util.regex.Matcher;
import java.util.regex.Pattern;

/**
 * Rules 4, 5, 11 and 12 of LANGUAGE.md, by reading the source method by method: which library it uses, how deep its
 * calls go, where objects are made, and that what is made gets nothing of the object that makes it.
 */
public final class SourceTest {
    private static final int MOST_DEEP = 8;
    private static final Set<String> LIBRARY = Set.of("Math.max", "Math.min", "Integer.bitCount", "System.arraycopy");
    private static final Set<String> RECURSIVE = Set.of("Reader.readLevel", "Reader.readOperand", "Reader.readNot",
        "Reader.readBracket");
    private static final Map<String, String> ABOVE = Map.of("Phone", "Way", "Card", "Way", "CodeList", "Way",
        "Shared", "Phone", "Grid", "Card", "Spare", "CodeList");
    private static final List<String> KINDS = List.of("Way", "Phone", "Card", "CodeList", "Shared", "Grid", "Spare");
    private static final Pattern METHOD = Pattern.compile(
        "(?m)^( +)(?:(?:public|private|static|final) )*[\\w\\[\\]]+ (\\w+)\\([^;{]*\\) \\{$");
    private static final Pattern CLASS = Pattern.compile("(?m)^ {4}private static (?:final )?class (\\w+)");
    private static final Pattern CALL = Pattern.compile("(super\\.|\\.)?\\b(\\w+)\\(");

    /** Bodies of methods by class and name. */
    private final Map<String, String> bodies = new LinkedHashMap<>();
    private final String source;

    private SourceTest(String source) {
        this.source = source;
        Matcher matcher = METHOD.matcher(source);
        while (matcher.find()) {
            if (!matcher.group().contains("else if")) {
                int end = source.indexOf("\n" + matcher.group(1) + "}", matcher.end());
                bodies.put(classAt(matcher.start()) + "." + matcher.group(2), source.substring(matcher.end(), end));
            }
        }
    }

    public static void main(String[] args) throws IOException {
        String source = Files.readString(Path.of("src/main/java/SixFigures.java"));
        SourceTest test = new SourceTest(source.replaceAll("(?s)/\\*.*?\\*/", "").replaceAll("//[^\\n]*", ""));
        is("methods are found", test.bodies.size() > 90);
        test.library();
        test.constants();
        test.made();
        test.depths();
        Answers.finish();
    }

    private String classAt(int place) {
        String name = "SixFigures";
        Matcher matcher = CLASS.matcher(source);
        while (matcher.find() && matcher.start() < place) {
            name = matcher.group(1);
        }
        return name;
    }

    private void library() {
        Matcher matcher = Pattern.compile("\\b(Math|Integer|Long|System|Arrays|String|List)\\.\\w+").matcher(source);
        while (matcher.find()) {
            is("rule 4: " + matcher.group(), LIBRARY.contains(matcher.group()));
        }
        Matcher types = Pattern.compile("\\b(double|float|Integer|ArrayList|List|StringBuilder) \\w+").matcher(source);
        is("rule 3: numbers, texts and its own classes alone", !types.find());
    }

    private void constants() {
        Matcher matcher = Pattern.compile("(?m)^ +(?:private )?static (?:final )?(\\S+) \\w+ = ").matcher(source);
        int found = 0;
        while (matcher.find()) {
            found++;
            is("rule 5: " + matcher.group().strip(), matcher.group().contains("static final ")
                && Set.of("int", "String", "int[]").contains(matcher.group(1)));
        }
        is("constants are found", found > 40);
        is("rule 5: no row of constants is changed",
            !Pattern.compile("\\b[A-Z][A-Z_]+\\[[^\\]]*\\] *(=[^=]|\\+\\+|--|[-+*/|]=)").matcher(source).find());
    }

    /** Objects are made with the object; by a call just the Book of an IMAGE, once. */
    private void made() {
        for (Map.Entry<String, String> method : bodies.entrySet()) {
            int makes = Pattern.compile("\\bnew\\b").matcher(method.getValue()).results().toList().size();
            is("rule 12: " + method.getKey() + " makes no more than it should",
                makes == (method.getKey().equals("SixFigures.image") ? 1 : 0));
        }
        is("rule 12: image() makes its Book once",
            bodies.get("SixFigures.image").replaceAll("\\s+", " ").contains("if (kept == null) { kept = new Book(); }"));
        is("rule 12: nothing of an object is handed out while it is made",
            !Pattern.compile("\\bnew \\w+\\([^)]").matcher(source).find());
    }

    private void depths() {
        int deepest = 0;
        for (String method : bodies.keySet()) {
            if (method.startsWith("SixFigures.")) {
                for (String kind : KINDS) {
                    int depth = depth(method, kind, new ArrayList<>());
                    deepest = Math.max(deepest, depth);
                    is("rule 11: " + method + " goes " + depth + " deep", depth <= MOST_DEEP);
                }
            }
        }
        is("the depths are found", deepest > 3);
    }

    /** How many calls stand open at once from a method on, those of the reader of TEXTS (a recursion) being one. */
    private int depth(String method, String kind, List<String> open) {
        is("no recursion but the reader's: " + open + method, !open.contains(method));
        if (open.contains(method)) {
            return 0;
        }
        List<String> with = new ArrayList<>(open);
        with.add(method);
        int most = 0;
        for (String called : callsOf(method, kind)) {
            boolean again = RECURSIVE.contains(method) && RECURSIVE.contains(called);
            most = Math.max(most, again ? 0 : depth(called, kind, with));
        }
        return 1 + most;
    }

    private Set<String> callsOf(String method, String kind) {
        String own = method.substring(0, method.indexOf('.'));
        Set<String> calls = new TreeSet<>();
        Matcher matcher = CALL.matcher(bodies.get(method));
        while (matcher.find()) {
            String called = target(own, matcher.group(1) == null ? "" : matcher.group(1), matcher.group(2), kind);
            if (called != null) {
                calls.add(called);
            }
        }
        return calls;
    }

    /**
     * The method that a name stands for, in a class, when a WAY of a KIND is asked; null: none of the source's. With a
     * point ahead it is one of another class.
     */
    private String target(String own, String ahead, String name, String kind) {
        if (bodies.containsKey("Way." + name)) {
            String at = ahead.equals("super.") ? ABOVE.get(own) : kind;
            while (!bodies.containsKey(at + "." + name)) {
                at = ABOVE.get(at);
            }
            return at + "." + name;
        }
        if (ahead.isEmpty()) {
            return bodies.containsKey(own + "." + name) ? own + "." + name : null;
        }
        for (String method : bodies.keySet()) {
            if (method.endsWith("." + name) && !method.startsWith(own + ".")) {
                return method;
            }
        }
        return null;
    }

    private static void is(String what, boolean holds) {
        Answers.due(what, holds ? 1 : 0, 1);
    }
}
