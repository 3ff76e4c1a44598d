import java.io.IOException;
import java.nio.file.Files;
import java.nio.file.Path;
import java.util.List;
import java.util.regex.Matcher;
import java.util.regex.Pattern;

/** Rules of LANGUAGE.md that the source's own letters show. */
public final class LanguageTest {
    private static final List<String> FACE = List.of("feed", "text", "fault", "named", "cell", "egg", "child", "odds",
            "law", "hide", "take", "set", "rule", "go", "weight", "next", "stop", "place", "later", "tears", "kindest",
            "rests", "rest", "alike", "forgot", "worth", "trade", "shared", "see", "strike", "known", "starts",
            "chance", "tried", "undo", "keep", "back", "count");

    public static void main(String[] args) throws IOException {
        Path root = Path.of(System.getProperty("root", "."));
        String source = Files.readString(root.resolve("src/main/java/EggGarden.java"));
        String code = source.replaceAll("(?s)/\\*.*?\\*/", "").replaceAll("//[^\n]*", "")
                .replaceAll("\"[^\"\n]*\"", "\"\"");
        absent(code, "no lambda", "->");
        absent(code, "no method reference", "::");
        absent(code, "no try: nothing here throws but cell()", "\\b(try|catch|finally)\\b");
        absent(code, "no joining of texts", "\"\" *\\+|\\+ *\"\"");
        absent(code, "nothing of these", "\\b(synchronized|assert|volatile|transient|native|protected|package|var)\\b");
        absent(code, "no library", "\\b(System\\.(?!arraycopy)|Random|Thread|Long\\.M|Integer\\.M|Objects|Optional)");
        absent(code, "no Exact", "Exact");
        absent(code, "no static block", "\\bstatic *\\{");
        absent(code, "no null", "\\bnull\\b");
        absent(code, "no endless loop", "while *\\( *true|for *\\(;;");
        Matcher imports = Pattern.compile("import ([\\w.]+);").matcher(code);
        while (imports.find()) {
            Check.due("import " + imports.group(1), imports.group(1).equals("java.util.NoSuchElementException"), true);
        }
        int classes = 0;
        Matcher kinds = Pattern.compile("\\b(class|interface|enum|record) \\w+").matcher(code);
        while (kinds.find()) {
            classes++;
        }
        Check.due("at most twelve classes", classes <= 12, true);
        methods(code);
        for (int i = 0; i < source.length(); i++) {
            char sign = source.charAt(i);
            Check.due("sign " + (int) sign, sign == 10 || sign >= 32 && sign < 127, true);
        }
        Check.end();
    }

    private static void absent(String code, String rule, String pattern) {
        Matcher matcher = Pattern.compile(pattern).matcher(code);
        Check.due(rule + (matcher.find() ? ": " + matcher.group() : ""), Pattern.compile(pattern).matcher(code).find(),
                false);
    }

    private static void methods(String code) {
        String[] lines = code.split("\n", -1);
        Pattern head = Pattern.compile("^( {4}| {8})(public |private |static |final )*([\\w\\[\\]]+) (\\w+)\\(([^)]*)\\).*\\{$");
        int publicMethods = 0;
        for (int i = 0; i < lines.length; i++) {
            Matcher m = head.matcher(lines[i]);
            if (!m.matches() || m.group(4).equals("EggGarden") || m.group(3).equals("new") || m.group(3).equals("return")) {
                continue;
            }
            int end = i;
            while (!lines[end].equals(m.group(1) + "}")) {
                end++;
            }
            String name = m.group(4);
            boolean isPublic = lines[i].contains("public ");
            publicMethods += isPublic ? 1 : 0;
            Check.due(name + " stays short", end - i + 1 <= 60, true);
            Check.due(name + " takes at most seven", m.group(5).split(",").length <= 7, true);
            Check.due(name + " is of the face only if public", FACE.contains(name), isPublic);
        }
        Check.due("the face's methods", publicMethods, FACE.size());
    }
}
