import java.nio.charset.StandardCharsets;
import java.nio.file.Files;
import java.nio.file.Path;
import java.util.ArrayList;
import java.util.HashSet;
import java.util.List;
import java.util.Set;
import java.util.regex.Matcher;
import java.util.regex.Pattern;

/** Looks for what LANGUAGE.md leaves out in RowForge.java, as far as its text shows it; the first argument is the project's directory. */
public final class LanguageTest {
    static int wrong;

    static void fault(String rule, String what) {
        wrong++;
        System.out.println("rule " + rule + ": " + what);
    }

    static void none(String rule, String text, String pattern) {
        Matcher m = Pattern.compile(pattern).matcher(text);
        while (m.find()) {
            fault(rule, m.group());
        }
    }

    static void onlyThese(String rule, String text, String pattern, String allowed) {
        Matcher m = Pattern.compile(pattern).matcher(text);
        while (m.find()) {
            if (!(" " + allowed + " ").contains(" " + m.group(1) + " ")) {
                fault(rule, m.group());
            }
        }
    }

    public static void main(String[] args) throws Exception {
        Path file = Path.of(args.length > 0 ? args[0] : ".", "src/main/java/RowForge.java");
        String whole = Files.readString(file, StandardCharsets.ISO_8859_1);
        none("4", whole, "[^\\n -~]");
        none("1", whole, "(?m)^package.*");
        String text = whole.replaceAll("(?s)/\\*.*?\\*/", "").replaceAll("//[^\\n]*", "");
        onlyThese("4", text, "import ([\\w.*]+);", "java.util.ArrayList java.util.Arrays");
        none("2", text, "->|::");
        none("6", text, "\\b(try|catch|finally|synchronized|assert|native|volatile|transient)\\b");
        none("6", text, "throw (?!new (IndexOutOfBounds|IllegalArgument|IllegalState|Arithmetic)Exception\\(\\);)[^;]*");
        none("3", text, "\\b(Object|Map|HashMap|Set|Long\\b[^.]|Double|Boolean|Character|String|var|float|double|long)\\b");
        none("4", text, "(addExact|multiplyExact|toIntExact|subtractExact|System\\.(out|nanoTime|currentTimeMillis|err))");
        onlyThese("4", text, "Arrays\\.(\\w+)", "fill copyOf copyOfRange");
        onlyThese("4", text, "Math\\.(\\w+)", "min max abs");
        onlyThese("4", text, "Integer\\.(\\w+)", "compare bitCount");
        onlyThese("4", text, "System\\.(\\w+)", "arraycopy");
        none("6", text, "\\b(equals|hashCode|toString|instanceof)\\b");
        none("5", text, "(?m)^\\s*(private |public )?static (?!final|int |boolean |void )[^(]*[=;].*");
        none("5", text, "static \\{");
        sizes(text);
        System.out.println(wrong == 0 ? "nothing found" : wrong + " found");
        System.exit(wrong == 0 ? 0 : 1);
    }

    /** Lengths of methods, numbers of classes and parameters, and names of private methods. */
    static void sizes(String text) {
        String[] lines = text.split("\n");
        Set<String> face = new HashSet<>();
        List<String> others = new ArrayList<>();
        int classes = 0;
        int start = -1;
        Pattern method = Pattern.compile("^( {4}| {8})(public |private )?(static )?([\\w\\[\\]<>]+ )?(\\w+)\\((.*)\\)( throws .*)? \\{$");
        String indent = "";
        for (int i = 0; i < lines.length; i++) {
            if (lines[i].matches("^ *(private |public )?(static )?(abstract |final )*(class|enum|interface|record) .*")) {
                classes++;
                continue;
            }
            Matcher m = method.matcher(lines[i]);
            boolean isMethod = m.matches() && !m.group(5).matches("if|for|while|switch|else");
            if (isMethod) {
                start = i;
                indent = m.group(1);
                if (m.group(6).split(",").length > 7) {
                    fault("11", lines[i].trim());
                }
                if ("public ".equals(m.group(2))) {
                    face.add(m.group(5));
                } else {
                    others.add(m.group(5));
                }
            } else if (start >= 0 && lines[i].equals(indent + "}")) {
                if (i - start > 60) {
                    fault("11", "long: " + lines[start].trim());
                }
                start = -1;
            }
        }
        if (classes > 12) {
            fault("11", classes + " classes");
        }
        if (face.size() != 48) {
            fault("1", face.size() + " public names");
        }
        for (String name : others) {
            if (face.contains(name) && !name.equals("RowForge")) {
                fault("1", "a method of its own is named " + name);
            }
        }
    }
}
