import java.nio.file.Files;
import java.nio.file.Path;
import java.util.ArrayList;
import java.util.Arrays;
import java.util.HashSet;
import java.util.List;
import java.util.Set;
import java.util.regex.Matcher;
import java.util.regex.Pattern;

/** The rules of ../shared/LANGUAGE.md that can be seen from the source's words alone. */
public final class LanguageRules {
    private static int wrong = 0;

    private static void must(boolean holds, String what) {
        if (!holds) {
            wrong++;
            System.out.println("LanguageRules: " + what);
        }
    }

    private static String withoutTexts(String source) {
        return source.replaceAll("(?s)/\\*.*?\\*/", "").replaceAll("//[^\n]*", "")
            .replaceAll("\"[^\"\n]*\"", "\"\"").replaceAll("'[^'\n]'", "0");
    }

    private static void words(String code) {
        String[] banned = {"throw", "throws", "try", "catch", "synchronized", "assert", "protected", "\\w+Exact", "HashMap",
            "Object", "equals", "hashCode", "toString", "Random", "Thread", "NaN", "volatile", "native"};
        for (String word : banned) {
            must(!Pattern.compile("\\b" + word + "\\b").matcher(code).find(), "the word " + word);
        }
        must(!code.contains("->"), "an arrow");
        must(!code.contains("::"), "a method reference");
        Matcher imports = Pattern.compile("import ([\\w.*]+);").matcher(code);
        while (imports.find()) {
            must(Set.of("java.util.ArrayList", "java.util.List", "java.util.Arrays").contains(imports.group(1)),
                "import of " + imports.group(1));
        }
        Matcher library = Pattern.compile("\\b(Math|System|Arrays)\\.(\\w+)").matcher(code);
        while (library.find()) {
            must(Set.of("max", "min", "abs", "arraycopy", "copyOf", "copyOfRange", "fill").contains(library.group(2)),
                "use of " + library.group());
        }
    }

    private static void face(String code) {
        Set<String> due = new HashSet<>(Arrays.asList(("feed end take name write gone move rename as count found out named "
            + "text read show onward from wanted touch within members blame change back PageWeb").split(" ")));
        Matcher methods = Pattern.compile("\n( +)(public |private |static |final )*([\\w<>\\[\\]]+ )?(\\w+)\\(([^)]*)\\) \\{")
            .matcher(code);
        Set<String> met = new HashSet<>();
        while (methods.find()) {
            String name = methods.group(4);
            if (Set.of("if", "for", "while", "switch").contains(name)) {
                continue;
            }
            boolean open = methods.group().contains("public ");
            must(open == due.contains(name), name + " has the wrong face");
            must(methods.group(1).length() > 4 || open || methods.group().contains("private "), name + " is seen from outside");
            must(methods.group(5).split(",").length <= 7, name + " has too many parameters");
            String rest = code.substring(methods.end());
            int lines = rest.substring(0, rest.indexOf("\n" + methods.group(1) + "}")).split("\n").length;
            must(lines <= 60, name + " is too long");
            if (open) {
                met.add(name);
            }
        }
        must(met.equals(due), "the face is " + met);
        must(code.split("\\bclass \\w").length - 1 <= 12, "too many classes");
    }

    private static void fields(String code) {
        List<String> statics = new ArrayList<>();
        Matcher fields = Pattern.compile("\\bstatic (?!final class)([^(={;]*)[=;]").matcher(code);
        while (fields.find()) {
            statics.add(fields.group(1));
        }
        for (String field : statics) {
            must(field.matches("final (int|long|boolean|char|String|int\\[\\]|long\\[\\]|char\\[\\]|byte\\[\\]) \\w+ "), "static " + field);
        }
    }

    public static void main(String[] args) throws Exception {
        String source = Files.readString(Path.of("src/main/java/PageWeb.java"));
        String code = withoutTexts(source);
        words(code);
        face(code);
        fields(code);
        must(source.chars().allMatch(c -> c < 127), "a sign beyond 126");
        System.exit(wrong > 0 ? 1 : 0);
    }
}
