import java.io.File;
import java.io.IOException;
import java.lang.reflect.Method;
import java.lang.reflect.Modifier;
import java.nio.file.Files;
import java.nio.file.Path;

/** What README.md tells a user: its example answers so, and it leaves out no call and no test. */
public final class ReadmeTest {
    private static final Check CHECK = new Check();

    public static void main(String[] args) throws IOException {
        String readme = Files.readString(Path.of("README.md"));
        example();
        namesEachCall(readme);
        namesEachTest(readme);
        CHECK.end();
    }

    private static void example() {
        GlacierBook book = new GlacierBook();
        int lot = book.fill(1, 0, 500, 90);
        CHECK.same("the lot filled", lot, 0);
        int here = book.move(lot, 0, 200);
        CHECK.same("the lot in the station", here, 1);
        book.setFrost(3, 9);
        book.setPeople(2, 4);
        CHECK.same("enough for", book.enoughFor(), 12);
        CHECK.same("eaten", book.pass(7), 112);
        CHECK.same("left", book.amount(here), 88);
        CHECK.same("frozen", book.changed(0, GlacierBook.FROZEN), -104);
        CHECK.same("lot 0 after 30, 27, 25 and 22 froze", book.amount(lot), 196);
    }

    private static void namesEachCall(String readme) {
        for (Method call : GlacierBook.class.getDeclaredMethods()) {
            if (Modifier.isPublic(call.getModifiers())) {
                CHECK.same("names " + call.getName(), readme.contains("| `" + call.getName() + "("), true);
            }
        }
    }

    private static void namesEachTest(String readme) {
        String[] files = new File("src/test/java").list();
        CHECK.same("tests are there", files != null && files.length > 0, true);
        for (String file : files) {
            String name = file.replace(".java", "");
            CHECK.same("names " + name, readme.contains("`" + name + "`"), true);
        }
    }
}
