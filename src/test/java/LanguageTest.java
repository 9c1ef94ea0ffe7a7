import java.io.IOException;
import java.nio.file.Files;
import java.nio.file.Path;
import java.util.List;
import java.util.regex.Matcher;
import java.util.regex.Pattern;

/** The rules of LANGUAGE.md that can be seen in the source by its words. */
public final class LanguageTest {
    private static final List<String> NEVER = List.of("\\bthrow\\b", "\\bthrows\\b", "\\btry\\b", "\\bcatch\\b",
            "\\bsynchronized\\b", "\\bassert\\b", "\\) ->", "\\(\\w+ ->", "= \\w+ ->", "::", "\\bpackage\\b",
            "\\bprotected\\b", "\\bfinally\\b", "\\bhashCode\\b", "Exact\\b", "\\bStream\\b", "\\bnative\\b",
            "\\bvolatile\\b", "\\bNaN\\b", "\\bThread\\b", "\\bRandom\\b", "\\bSystem\\.(?!arraycopy)");
    private static final Pattern METHOD =
            Pattern.compile("\n( +)(?:(?:public|private|static|final) )*[\\w\\[\\]]+ ?\\w*\\(([^)]*)\\) \\{");

    private LanguageTest() {
    }

    public static void main(String[] args) throws IOException {
        String source = Files.readString(Path.of("src/main/java/ForgetBread.java"));
        String code = source.replaceAll("(?s)/\\*.*?\\*/", "").replaceAll("//[^\n]*", "");
        for (String word : NEVER) {
            Matcher found = Pattern.compile(word).matcher(code);
            Kit.due("there is " + word, found.find(), false);
        }
        for (int i = 0; i < source.length(); i++) {
            if (source.charAt(i) > 126) {
                Kit.due("the sign at " + i, source.charAt(i), ' ');
            }
        }
        Matcher imports = Pattern.compile("import ([\\w.]+);").matcher(code);
        while (imports.find()) {
            Kit.due(imports.group(1), imports.group(1).matches("java\\.util\\.(\\*|Arrays|ArrayList|List|Iterator)"), true);
        }
        Matcher methods = METHOD.matcher(code);
        int many = 0;
        while (methods.find()) {
            int end = code.indexOf("\n" + methods.group(1) + "}", methods.end());
            String name = methods.group().trim();
            if (name.matches("(?s)(if|for|while|switch|else|return|do)\\b.*") || end < 0) {
                continue;
            }
            many++;
            long lines = code.substring(methods.start(), end).chars().filter(sign -> sign == '\n').count();
            Kit.due(name + " has " + lines + " lines", lines <= 60, true);
            String with = methods.group(2).trim();
            Kit.due(name + " takes too much", with.isEmpty() || with.split(",").length <= 7, true);
        }
        Kit.due("methods were found", many > 0, true);
        Kit.close();
    }
}
