import java.io.IOException;
import java.nio.charset.StandardCharsets;
import java.nio.file.Files;
import java.nio.file.Path;
import java.util.ArrayList;
import java.util.HashSet;
import java.util.List;
import java.util.Map;
import java.util.Set;
import java.util.TreeMap;
import java.util.TreeSet;
import java.util.regex.Matcher;
import java.util.regex.Pattern;

/** The rules of LANGUAGE.md that can be seen in the words of the class's file. */
public final class LanguageTest {
    private static final CheckKit CHECK = new CheckKit();
    private static final String FILE = "src/main/java/MateKeys.java";

    /** What rules 1, 2, 4, 6, 8 and 10 rule out, or what this class has no need of. */
    private static final String[] NO_WORDS = {
        "package", "import", "throw", "throws", "try", "catch", "finally", "synchronized", "assert",
        "instanceof", "protected", "volatile", "transient", "native", "var", "double", "long"
    };
    private static final Set<String> LIBRARY = Set.of("length", "charAt", "indexOf");
    private static final Set<String> KEYWORDS = Set.of("if", "for", "while", "switch", "return");
    private static final Set<String> MADE = Set.of(
        "Position", "History", "MoveTable", "Line", "Script", "int");

    private static final Pattern METHOD = Pattern.compile(
        "(?m)^ +(?:(?:public|private|static|final) )*[A-Za-z]+ (\\w+)\\(([^)]*)\\) \\{$");
    private static final Pattern CALL = Pattern.compile("(new )?\\b(\\w+)\\(");
    private static final Pattern MAKING = Pattern.compile("\\bnew (\\w+)");

    private static final int MOST_LINES = 60;
    private static final int MOST_PARAMETERS = 7;
    private static final int MOST_DEEP = 8;

    private static final Map<String, Set<String>> CALLS = new TreeMap<>();

    public static void main(String[] args) throws IOException {
        String text = Files.readString(Path.of(FILE), StandardCharsets.ISO_8859_1);
        String code = withoutCommentsAndTexts(text);
        checkSigns(text);
        checkWords(code);
        checkMaking(code);
        checkMethods(code);
        checkCalls();
        CHECK.finish();
    }

    private static void checkSigns(String text) {
        CHECK.about("Rule 4: the signs of constants are 1 to 127");
        for (int i = 0; i < text.length(); i++) {
            if (text.charAt(i) < 1 || text.charAt(i) > 127) {
                CHECK.due("sign " + i, text.charAt(i), 127);
            }
        }
    }

    private static void checkWords(String code) {
        CHECK.about("Rules 1, 2, 4, 6, 10: words that the class does without");
        for (String word : NO_WORDS) {
            boolean found = Pattern.compile("\\b" + word + "\\b").matcher(code).find();
            CHECK.due(word, found ? 1 : 0, 0);
        }
        CHECK.due("lambda", code.contains("->") ? 1 : 0, 0);
        CHECK.due("method reference", code.contains("::") ? 1 : 0, 0);
        CHECK.due("block of statics", Pattern.compile("static\\s*\\{").matcher(code).find() ? 1 : 0, 0);
    }

    private static void checkMaking(String code) {
        CHECK.about("Rules 3 and 12: what is made");
        Matcher making = MAKING.matcher(code);
        while (making.find()) {
            CHECK.due("new " + making.group(1), MADE.contains(making.group(1)) ? 1 : 0, 1);
        }
    }

    private static void checkMethods(String code) {
        CHECK.about("Rule 11: short methods with few parameters; rule 12: none makes anything");
        Matcher method = METHOD.matcher(code);
        while (method.find()) {
            String name = method.group(1);
            String body = body(code, method.end() - 1);
            String parameters = method.group(2);
            int count = parameters.isEmpty() ? 0 : parameters.split(",").length;
            CHECK.due(name + ": parameters", count <= MOST_PARAMETERS ? 1 : 0, 1);
            CHECK.due(name + ": lines", body.lines().count() <= MOST_LINES ? 1 : 0, 1);
            CHECK.due(name + " makes something", MAKING.matcher(body).find() ? 1 : 0, 0);
            Set<String> called = CALLS.computeIfAbsent(name, n -> new TreeSet<>());
            Matcher call = CALL.matcher(body);
            while (call.find()) {
                if (call.group(1) == null && !KEYWORDS.contains(call.group(2))) {
                    called.add(call.group(2));
                }
            }
        }
        CHECK.due("the face's methods and others were found", CALLS.size() > 32 ? 1 : 0, 1);
    }

    private static void checkCalls() {
        CHECK.about("Rule 4: the library; rule 11: calls go at most eight deep, none calls itself");
        Set<String> deep = new HashSet<>();
        for (Map.Entry<String, Set<String>> method : CALLS.entrySet()) {
            for (String called : method.getValue()) {
                boolean known = CALLS.containsKey(called) || LIBRARY.contains(called);
                CHECK.due(method.getKey() + " calls " + called, known ? 1 : 0, 1);
            }
            tooDeep(method.getKey(), new ArrayList<>(), deep);
        }
        CHECK.due("chains that are too deep", deep.toString(), "[]");
    }

    /** Methods of one name count as one, so that a chain is told too long sooner than too short. */
    private static void tooDeep(String name, List<String> chain, Set<String> deep) {
        if (!CALLS.containsKey(name)) {
            return;
        }
        boolean again = chain.contains(name);
        chain.add(name);
        if (again || chain.size() > MOST_DEEP) {
            deep.add(chain.toString());
        } else {
            for (String called : CALLS.get(name)) {
                tooDeep(called, chain, deep);
            }
        }
        chain.remove(chain.size() - 1);
    }

    /** The block that begins with the brace at this index. */
    private static String body(String code, int open) {
        int depth = 0;
        for (int i = open; i < code.length(); i++) {
            depth += code.charAt(i) == '{' ? 1 : code.charAt(i) == '}' ? -1 : 0;
            if (depth == 0) {
                return code.substring(open, i + 1);
            }
        }
        return code.substring(open);
    }

    private static String withoutCommentsAndTexts(String text) {
        return text.replaceAll("(?s)/\\*.*?\\*/", "")
            .replaceAll("'(\\\\.|[^'\\\\])'", "' '")
            .replaceAll("\"(\\\\.|[^\"\\\\])*\"", "\"\"")
            .replaceAll("//.*", "");
    }
}
