import java.nio.charset.StandardCharsets;
import java.nio.file.Files;
import java.nio.file.Path;
import java.util.List;
import java.util.TreeSet;
import java.util.regex.Matcher;
import java.util.regex.Pattern;

/** What of LANGUAGE.md can be seen in the source's own words; run from the project's folder. */
public final class RulesTest {
    private static final String[] FORBIDDEN = {
        "->", "::", "\\bfinally\\b", "\\bsynchronized\\b", "\\bassert\\b", "\\bcatch\\b", "\\btry\\b", "\\bdouble\\b",
        "\\bfloat\\b", "\\w+Exact\\b", "\\bSystem\\.(?!arraycopy)", "\\bhashCode\\b", "\\btoString\\b", "\\bvar\\b",
        "\\bString\\.", "\\bstatic \\{", "^package\\b", "\\bprotected\\b", "\\bpublic static (?!final)", "\"[^\"]*\" \\+",
    };
    private static final String LIBRARY =
            "Math.abs Math.max Math.min Integer.bitCount Arrays.fill Arrays.copyOfRange";
    private static final int LONGEST_METHOD = 60;
    private static int wrong = 0;

    private static void check(boolean holds, String what) {
        if (!holds) {
            wrong++;
            System.out.println("not by the rules: " + what);
        }
    }

    private static String withoutComments(String source) {
        return source.replaceAll("(?s)/\\*.*?\\*/", "").replaceAll("//[^\n]*", "");
    }

    private static void checkWords(String code) {
        for (String word : FORBIDDEN) {
            Matcher m = Pattern.compile(word, Pattern.MULTILINE).matcher(code);
            check(!m.find(), word);
        }
        TreeSet<String> library = new TreeSet<>();
        Matcher m = Pattern.compile("\\b(Math|Integer|Long|Arrays|List)\\.\\w+").matcher(code);
        while (m.find()) {
            library.add(m.group());
        }
        library.removeAll(List.of(LIBRARY.split(" ")));
        check(library.isEmpty(), "the library: " + library);
        Matcher imports = Pattern.compile("import ([\\w.]+);").matcher(code);
        TreeSet<String> imported = new TreeSet<>();
        while (imports.find()) {
            imported.add(imports.group(1));
        }
        check(imported.equals(new TreeSet<>(List.of("java.util.Arrays", "java.util.NoSuchElementException"))),
                "imports: " + imported);
    }

    private static void checkMethods(String[] lines) {
        Pattern head = Pattern.compile("^( {4}| {8})(?! |return|new|throw)[\\w\\[\\] ]*\\w+\\(([^()]*)\\)[\\w ]* \\{$");
        for (int i = 0; i < lines.length; i++) {
            Matcher m = head.matcher(lines[i]);
            if (m.matches() && !m.group(0).trim().startsWith("if") && !m.group(0).trim().startsWith("switch")) {
                int end = i;
                while (end < lines.length && !lines[end].equals(m.group(1) + "}")) {
                    end++;
                }
                check(end - i <= LONGEST_METHOD, "a long method: " + lines[i].trim());
                check(m.group(2).split(",").length <= 7, "many parameters: " + lines[i].trim());
            }
        }
    }

    public static void main(String[] args) throws Exception {
        byte[] bytes = Files.readAllBytes(Path.of("src/main/java/GrooveHouse.java"));
        String source = new String(bytes, StandardCharsets.ISO_8859_1);
        check(source.chars().allMatch(c -> c < 128), "signs above 127");
        checkWords(withoutComments(source));
        checkMethods(source.split("\n"));
        System.out.println(wrong == 0 ? "the source keeps to the rules" : wrong + " things are not by the rules");
        if (wrong != 0) {
            System.exit(1);
        }
    }
}
