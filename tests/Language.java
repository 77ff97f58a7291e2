import java.nio.file.Files;
import java.nio.file.Path;
import java.util.List;
import java.util.Set;
import java.util.TreeSet;
import java.util.regex.Matcher;
import java.util.regex.Pattern;

/** What of LANGUAGE.md can be seen in the text of the class. */
public final class Language {
    private static final Checks T = new Checks();
    private static final int LONGEST_METHOD = 60;

    public static void main(String[] args) throws Exception {
        String text = Files.readString(Path.of("src/main/java/SnowForSummer.java"));
        String code = text.replaceAll("/\\*(?s:.*?)\\*/", "").replaceAll("//.*", "");
        forbidden(code);
        library(code);
        loops(code);
        methods(List.of(text.split("\n")));
        int classes = count(code, "\\b(class|enum|record|interface) [A-Z]");
        T.due("some twelve classes: " + classes, classes <= 12, true);
        T.due("signs 1 to 127", text.chars().allMatch(c -> c > 0 && c < 128), true);
        T.finish();
    }

    private static int count(String code, String pattern) {
        int n = 0;
        for (Matcher m = Pattern.compile(pattern).matcher(code); m.find();) {
            n++;
        }
        return n;
    }

    private static void forbidden(String code) {
        String[] words = {"->", "::", "\\bpackage\\b", "\\bcatch\\b", "\\btry\\b", "\\bfinally\\b", "\\bassert\\b",
            "\\bsynchronized\\b", "\\bvolatile\\b", "\\bnative\\b", "\\binstanceof\\b", "\\bprotected\\b", "\\bnull\\b",
            "\\bvar\\b", "\\bdouble\\b", "\\bfloat\\b", "\\bhashCode\\b", "\\btoString\\b", "static \\{", "\\bExact\\b",
            "Integer\\.[A-Z]", "\\byield\\b"};
        for (String word : words) {
            T.due("no " + word, count(code, word), 0);
        }
        T.due("throws only as the document says",
            count(code, "throw new") - count(code, "throw new NoSuchElementException\\(\\);"), 0);
    }

    private static void library(String code) {
        Set<String> used = new TreeSet<>();
        for (Matcher m = Pattern.compile("\\b(Math|Integer|Arrays|System|Long|String)\\.(\\w+)").matcher(code); m.find();) {
            used.add(m.group());
        }
        used.removeAll(Set.of("Math.max", "Math.min", "Integer.bitCount", "Arrays.fill", "System.arraycopy"));
        T.due("the library that is used beyond the list: " + used, used.size(), 0);
        Set<String> imports = new TreeSet<>();
        for (Matcher m = Pattern.compile("import (.*);").matcher(code); m.find();) {
            imports.add(m.group(1));
        }
        T.due("imports " + imports, imports.equals(Set.of("java.util.Arrays", "java.util.NoSuchElementException")), true);
    }

    /** Each loop counts against a bound that stands in its own head. */
    private static void loops(String code) {
        T.due("do", count(code, "\\bdo \\{"), 0);
        for (Matcher m = Pattern.compile("\\b(for|while) \\((.*)\\) \\{").matcher(code); m.find();) {
            boolean bounded = m.group(2).contains("<") || m.group(2).matches("int \\w+ : \\w+");
            T.due("a bound in " + m.group(), bounded, true);
        }
    }

    private static void methods(List<String> lines) {
        Pattern head = Pattern.compile("^( {4}| {8})(public |private |static |final )*[\\w\\[\\]]+ \\w+\\((.*)\\).* \\{$");
        for (int i = 0; i < lines.size(); i++) {
            T.due("line " + (i + 1) + " is no longer than 120", lines.get(i).length() <= 120, true);
            Matcher m = head.matcher(lines.get(i));
            if (m.matches()) {
                int end = i;
                while (!lines.get(end).equals(m.group(1) + "}")) {
                    end++;
                }
                T.due(lines.get(i).trim() + " is short", end - i <= LONGEST_METHOD, true);
                T.due(lines.get(i).trim() + " takes at most seven", m.group(3).split(",").length <= 7, true);
            }
        }
    }
}
