import java.io.IOException;
import java.lang.reflect.Method;
import java.lang.reflect.Modifier;
import java.nio.file.Files;
import java.nio.file.Path;
import java.util.Arrays;
import java.util.Set;
import java.util.TreeSet;
import java.util.regex.Matcher;
import java.util.regex.Pattern;

/** The document's face, and those rules of LANGUAGE.md that can be seen in the source or in the compiled class. */
public final class LanguageTest {
    private static final String[] FORBIDDEN = {"throw", "throws", "try", "catch", "finally", "synchronized", "assert",
        "import", "package", "protected", "native", "volatile", "transient", "hashCode", "toString", "getClass",
        "System.out", "Math.random", "Exact", "->", "::", "@", "static {", "Object", "var"};

    private LanguageTest() {
    }

    public static void main(String[] args) throws IOException {
        String source = bare(Files.readString(Path.of("src/main/java/SixFigures.java")));
        face(Files.readString(Path.of("../shared/DOC.md")));
        words(source);
        methods(source);
        members();
        Answers.finish();
    }

    /** The source without comments and the insides of texts. */
    private static String bare(String source) {
        return source.replaceAll("(?s)/\\*.*?\\*/", "").replaceAll("//[^\\n]*", "").replaceAll("\"[^\"\\n]*\"", "\"\"");
    }

    private static void face(String document) {
        Set<String> due = new TreeSet<>();
        Matcher matcher = Pattern.compile("(?m)^    public int (\\w+)\\(([^)]*)\\);").matcher(document);
        while (matcher.find()) {
            due.add(matcher.group(1) + "(" + matcher.group(2).replaceAll(" \\w+(,|$)", "$1") + ")");
        }
        Set<String> there = new TreeSet<>();
        for (Method method : SixFigures.class.getDeclaredMethods()) {
            if (!Modifier.isPrivate(method.getModifiers())) {
                String types = String.join(", ",
                    Arrays.stream(method.getParameterTypes()).map(Class::getName).toArray(String[]::new));
                there.add(method.getName() + "(" + types + ")");
                is(method + " answers an int", method.getReturnType() == int.class);
            }
        }
        is("the document has methods", due.size() == 40);
        is("the face is the document's: " + there, there.equals(due));
        is("one constructor", SixFigures.class.getDeclaredConstructors().length == 1);
        is("the class is public and final", SixFigures.class.getModifiers() == (Modifier.PUBLIC | Modifier.FINAL));
    }

    private static void words(String source) {
        for (String word : FORBIDDEN) {
            boolean letters = Character.isLetter(word.charAt(0));
            String pattern = letters ? "\\b" + Pattern.quote(word) + "\\b" : Pattern.quote(word);
            is("rule 6: no " + word, !Pattern.compile(pattern).matcher(source).find());
        }
        for (int i = 0; i < source.length(); i++) {
            if (source.charAt(i) > 126) {
                is("signs are 1 to 127", false);
            }
        }
        Matcher loops = Pattern.compile("\\b(while|do)\\b").matcher(source);
        is("rule 9: every loop has a counter", !loops.find());
        Matcher joined = Pattern.compile("\"\" *\\+|\\+ *\"\"").matcher(source);
        is("rule 10: no texts joined by +", !joined.find());
    }

    private static void methods(String source) {
        Set<String> open = new TreeSet<>();
        for (Method method : SixFigures.class.getDeclaredMethods()) {
            if (Modifier.isPublic(method.getModifiers())) {
                open.add(method.getName());
            }
        }
        Pattern head = Pattern.compile("(?m)^( +)(?:(?:public|private|static|final) )*[\\w\\[\\]]+ (\\w+)\\(([^;{]*)\\) \\{$");
        Matcher matcher = head.matcher(source);
        int found = 0;
        while (matcher.find()) {
            if (matcher.group().contains(" new ") || matcher.group().contains("else if")) {
                continue;
            }
            found++;
            int end = source.indexOf("\n" + matcher.group(1) + "}", matcher.end());
            long lines = source.substring(matcher.start(), end).chars().filter(c -> c == '\n').count();
            is("rule 11: " + matcher.group(2) + " is short", lines <= 60);
            is("rule 11: " + matcher.group(2) + " takes at most seven", matcher.group(3).split(",").length <= 7);
            if (!matcher.group().contains("public")) {
                is("rule 1: " + matcher.group(2) + " has a name of its own", !open.contains(matcher.group(2)));
            }
        }
        is("methods are found: " + found, found > 90);
    }

    private static void members() {
        Class<?>[] inside = SixFigures.class.getDeclaredClasses();
        is("rule 11: some twelve classes", inside.length + 1 <= 12);
        for (Class<?> one : inside) {
            is("rule 2: static " + one, Modifier.isStatic(one.getModifiers()) && !Modifier.isPublic(one.getModifiers()));
            fields(one);
        }
        fields(SixFigures.class);
        for (var field : SixFigures.class.getDeclaredFields()) {
            is("rule 1: private " + field, Modifier.isPrivate(field.getModifiers()));
        }
    }

    private static void fields(Class<?> one) {
        int own = 0;
        for (var field : one.getDeclaredFields()) {
            boolean isStatic = Modifier.isStatic(field.getModifiers());
            is("rule 5: final " + field, !isStatic || Modifier.isFinal(field.getModifiers()));
            own += isStatic ? 0 : 1;
        }
        is("rule 11: some twenty fields in " + one, own <= 20);
    }

    private static void is(String what, boolean holds) {
        Answers.due(what, holds ? 1 : 0, 1);
    }
}
