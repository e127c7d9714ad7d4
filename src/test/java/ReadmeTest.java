import java.io.IOException;
import java.nio.file.Files;
import java.nio.file.Path;
import java.util.List;

/** What README.md tells: each answer behind a call of its examples, in their order, and all calls by name. */
public final class ReadmeTest {

    private static List<String> lines;
    private static int next = 0;

    public static void main(String[] args) throws IOException {
        lines = Files.readAllLines(Path.of("README.md"));
        LadderClimb x = new LadderClimb();
        ladders(x);
        texts(x);
        Check.due("answers in README.md that no call here asks for", 0, answersFrom(next));
        names();
        Check.end();
    }

    private static void ladders(LadderClimb x) {
        told("x.put(0, 50, 160, 25);", x.put(0, 50, 160, 25));
        told("x.kinds(0, 1, 0);", x.kinds(0, 1, 0));
        told("x.on(0, 80);", x.on(0, 80));
        told("x.climb(0, 0, 4);", x.climb(0, 0, 4));
        told("x.force(0, 2);", x.force(0, 2));
        told("x.held(0, 20);", x.held(0, 20));
        told("x.highest(0, 0);", x.highest(0, 0));
        told("x.walls(0);", x.walls(0));
        told("x.climb(0, 0, 10);", x.climb(0, 0, 10));
        told("x.count(3);", x.count(3));
        told("x.undo();", x.undo());
        told("x.person(0, 0, 1);", x.person(0, 0, 1));
        told("x.safety();", x.safety());
    }

    private static void texts(LadderClimb x) {
        line("for (char c : \"0u8;1o60;0x\".toCharArray()) {");
        Check.type(x, "0u8;1o60;0x");
        told("x.firstError();", x.firstError());
        told("x.play();", x.play());
        told("x.count(1);", x.count(1));
        told("x.undo();", x.undo());
    }

    /** The next answer of README.md must be that of this call, with what it answered here. */
    private static void told(String call, Object answer) {
        while (next < lines.size() && !isAnswer(lines.get(next))) {
            next++;
        }
        String got = next < lines.size() ? lines.get(next) : "nothing";
        next++;
        boolean alike = got.startsWith(call) && got.contains("// " + answer + ": ");
        Check.due("README.md tells " + got + " where due is " + call + " // " + answer, 1, alike ? 1 : 0);
    }

    private static void line(String text) {
        Check.due("README.md has the line " + text, 1, lines.contains(text) ? 1 : 0);
    }

    private static boolean isAnswer(String line) {
        return line.startsWith("x.");
    }

    private static int answersFrom(int from) {
        int sum = 0;
        for (int i = from; i < lines.size(); i++) {
            sum += isAnswer(lines.get(i)) ? 1 : 0;
        }
        return sum;
    }

    private static void names() {
        String all = String.join("\n", lines);
        for (java.lang.reflect.Method m : LadderClimb.class.getDeclaredMethods()) {
            if (java.lang.reflect.Modifier.isPublic(m.getModifiers())) {
                Check.due("README.md names " + m.getName(), 1, all.contains("`" + m.getName() + "`") ? 1 : 0);
            }
        }
    }
}
