import java.io.IOException;
import java.nio.file.Files;
import java.nio.file.Path;
import java.util.regex.Matcher;
import java.util.regex.Pattern;

/** What LANGUAGE.md leaves out and a word can show does not stand in the source. Run it in the project's folder. */
final class LanguageTest {
    private static final String[][] LEFT_OUT = {
        {"rule 1", "\\b(package|import|protected)\\b"},
        {"rule 2", "->|::"},
        {"rule 4", "\\bMath\\.(?!min\\(|max\\(|abs\\()|\\b(System|Double|Float|Object|Thread)\\b"},
        {"rule 5", "static\\s+(final\\s+)?(double|float)\\s+\\w+\\s*=|static\\s*\\{|static\\s+(?!final\\b)[\\w\\[\\]]+\\s+\\w+\\s*(=|;)"},
        {"rule 6", "\\b(try|catch|finally|synchronized|assert)\\b"},
        {"rule 6, a throw of another thing", "\\bthrow\\b(?! new (IllegalStateException|IllegalArgumentException|IndexOutOfBoundsException)\\(\"[^\"]*\"\\);)"},
        {"rule 9", "while\\s*\\(\\s*true|for\\s*\\(\\s*;\\s*;"},
        {"rule 10", "\"\\s*\\+|\\+\\s*\""},
        // An object goes into a name that stands already: a final field, which a constructor alone can fill.
        {"rule 12, an object made outside a constructor", "(?m)^(?! +\\w+ = new )(?!.*\\bthrow new ).*\\bnew\\b.*$"},
    };

    public static void main(String[] args) throws IOException {
        String source = Files.readString(Path.of("src/main/java/PlateModes.java"));
        String code = source.replaceAll("(?s)/\\*.*?\\*/", "").replaceAll("//[^\n]*", "");
        for (String[] rule : LEFT_OUT) {
            Matcher found = Pattern.compile(rule[1]).matcher(code);
            Check.same(rule[0], found.find() ? found.group() : "nothing left out", "nothing left out");
        }
        Check.finish("LanguageTest");
    }
}
