import java.io.IOException;
import java.lang.reflect.Method;
import java.lang.reflect.Modifier;
import java.nio.file.Files;
import java.nio.file.Path;
import java.util.List;

/** README's example answers what is told beside it, and README tells of every call. Run it in the project's folder. */
final class ReadmeTest {
    private static int nextLine = 0;

    public static void main(String[] args) throws IOException {
        List<String> readme = Files.readAllLines(Path.of("README.md"));
        theExampleAnswersAsTold(readme);
        everyCallIsTold(readme);
        Check.finish("ReadmeTest");
    }

    private static void theExampleAnswersAsTold(List<String> readme) {
        List<String> example = readme.subList(readme.indexOf("```java") + 1, readme.lastIndexOf("```"))
            .stream().filter(line -> !line.isBlank()).toList();
        PlateModes plate = new PlateModes(6, 4);
        told(example, "PlateModes plate = new PlateModes(6, 4);", "");
        plate.rates(2.0, 0.5, 1.0);
        told(example, "plate.rates(2.0, 0.5, 1.0);", "");
        told(example, "plate.wood(0, 0, 0);", plate.wood(0, 0, 0));
        told(example, "plate.brace(0, 1, 5, 1, 0.25);", plate.brace(0, 1, 5, 1, 0.25));
        told(example, "plate.weight();", plate.weight());
        told(example, "plate.mirrored(true);", plate.mirrored(true));
        told(example, "plate.modes(2);", plate.modes(2));
        told(example, "plate.mode(1, 0);", plate.mode(1, 0));
        told(example, "plate.shape(0, 3, 2);", plate.shape(0, 3, 2));
        told(example, "plate.coupled(0, 0.5, 0.25, true);", plate.coupled(0, 0.5, 0.25, true));
        told(example, "plate.tap(0, 3, 2, 0.0625);", plate.tap(0, 3, 2, 0.0625));
        told(example, "plate.want(1, 0.25);", plate.want(1, 0.25));
        told(example, "plate.sum();", plate.sum());
        told(example, "plate.thin(0.125, 0.5);", plate.thin(0.125, 0.5));
        told(example, "plate.sum();", plate.sum());
        Check.same("lines of the example", example.size(), nextLine);
    }

    /** The example's next line is this call, and its comment begins with the answer. */
    private static void told(List<String> example, String call, Object answer) {
        String line = nextLine < example.size() ? example.get(nextLine) : "";
        nextLine++;
        int comment = Math.max(0, line.indexOf("//"));
        Check.same("line " + nextLine + " of the example", line.substring(0, comment).strip(), call);
        String beside = line.substring(comment).replaceFirst("^// ", "");
        String begun = answer.equals("") ? "" : beside.split("[:, ]")[0];
        Check.same("what is told beside " + call, begun, answer.toString());
    }

    private static void everyCallIsTold(List<String> readme) {
        for (Method m : PlateModes.class.getDeclaredMethods()) {
            if (Modifier.isPublic(m.getModifiers())) {
                boolean named = readme.stream().anyMatch(line -> line.startsWith("| `" + m.getName() + "("));
                Check.same("a row of the table is for " + m.getName() + "()", named, true);
            }
        }
    }
}
