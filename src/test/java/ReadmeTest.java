import java.io.IOException;
import java.nio.file.Files;
import java.nio.file.Path;

/** What README.md says of the use: its calls answer so, its texts can be taken, it names every call. */
public final class ReadmeTest {
    private static final Check CHECK = new Check();
    private static final String ROW = "foot 2; house a wide 9; house b wide 9; person p in a; person r in b temper 4;";

    public static void main(String[] args) throws IOException {
        String readme = Files.readString(Path.of("README.md"));
        calls(readme);
        texts(readme);
        names(readme);
        CHECK.finish();
    }

    private static void calls(String readme) {
        CHECK.due("the row stands there", readme.contains("\"" + ROW + "\""), true);
        FootQuarrel q = new FootQuarrel();
        Check.feed(q, ROW);
        CHECK.fine(q, "street(78)", q.street(78), 2);
        CHECK.fine(q, "say(0, 1)", q.say(0, 1), 1);
        CHECK.fine(q, "wall(0)", q.wall(0), 11);
        CHECK.fine(q, "sorry(0)", q.sorry(0), 1);
        CHECK.fine(q, "night(1)", q.night(1), 1);
    }

    /** The two blocks of text, the words behind what is told left out. */
    private static void texts(String readme) {
        String[] blocks = readme.split("```text\n");
        CHECK.due("texts", blocks.length, 3);
        String row = blocks[1].substring(0, blocks[1].indexOf("```")).replaceAll("; {3,}.*\n", ";\n");
        FootQuarrel q = new FootQuarrel();
        CHECK.fine(q, "street: " + row, Check.street(q, row), 2);
        CHECK.due("told(0)", q.told(0), 3);
        CHECK.due("told(9)", q.told(9), 2);
        String years = blocks[2].substring(0, blocks[2].indexOf("```"));
        CHECK.fine(q, "years: " + years, Check.years(q, years), 9);
    }

    private static void names(String readme) {
        for (java.lang.reflect.Method method : FootQuarrel.class.getDeclaredMethods()) {
            if (java.lang.reflect.Modifier.isPublic(method.getModifiers())) {
                String name = method.getName();
                boolean isNamed = readme.contains("`" + name + "`") || readme.contains("`" + name + "(");
                CHECK.due("README.md names " + name, isNamed, true);
            }
        }
    }
}
