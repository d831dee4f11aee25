import java.io.IOException;
import java.lang.reflect.Method;
import java.nio.file.Files;
import java.nio.file.Path;

/** The example in README.md: its comments tell the answers, and this test holds the same lines. */
public final class ReadmeTest {
    private static final Check check = new Check("ReadmeTest");

    public static void main(String[] args) throws IOException {
        answersOfTheExample();
        callsAreTold();
        check.end();
    }

    private static void answersOfTheExample() {
        LinkfactoryYard yard = new LinkfactoryYard();
        int object = yard.object(false);
        int piece = yard.piece(object, 0, 10, false);
        yard.refer(piece, 0, true);
        int faults = yard.link();
        int run = yard.run(0);
        int patch = yard.patch(0, 4, 0, -1);
        check.due("faults", faults, 0);
        check.due("an image", yard.many(9), 1);
        check.due("it waits", yard.ofPatch(patch, 3), 0);
        check.due("backs", yard.backsFor(patch), 1);
        check.due("where", yard.back(run), -1);
        check.due("it is done", yard.ofPatch(patch, 3), 1);
        check.due("stands", yard.ofSymbol(0, 0), 1);
        check.due("word", yard.ofSymbol(0, 1), 10);
    }

    /** So that the page names each call of the face, and its example is the one above. */
    private static void callsAreTold() throws IOException {
        String page = Files.readString(Path.of("README.md"));
        for (Method method : LinkfactoryYard.class.getMethods()) {
            if (method.getDeclaringClass() == LinkfactoryYard.class) {
                check.due("README.md tells of " + method.getName(), page.contains("`" + method.getName() + "`"), true);
            }
        }
        String[] lines = {"yard.object(false);", "yard.piece(object, 0, 10, false);", "yard.refer(piece, 0, true);",
            "yard.link();                      // 0", "yard.run(0);", "yard.patch(0, 4, 0, -1);",
            "yard.ofPatch(patch, 3);            // 0", "yard.backsFor(patch);              // 1",
            "yard.back(run);                    // -1", "yard.ofPatch(patch, 3);                // 1",
            "yard.ofSymbol(0, 0);              // 1", "yard.ofSymbol(0, 1);                // 10"};
        for (String line : lines) {
            check.due("README.md has " + line, page.contains(line), true);
        }
    }
}
