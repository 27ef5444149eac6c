import java.io.IOException;
import java.lang.reflect.Method;
import java.lang.reflect.Modifier;
import java.nio.file.Files;
import java.nio.file.Path;
import java.util.List;

/** README.md against the class: the example answers what its comments tell, and each call has its row. */
public final class ReadmeTest {
    private static List<String> lines;
    private static int told = 0;

    private ReadmeTest() {
    }

    public static void main(String[] args) throws IOException {
        Check.begin("README.md");
        lines = Files.readAllLines(Path.of("README.md"));
        example();
        long answers = lines.stream().filter(line -> line.matches("night\\..*; *// -?\\d+:.*")).count();
        Check.same("answers in the example that are not looked at here", answers - told, 0);
        everyCallIsNamed();
        Check.end();
    }

    private static void example() {
        Kelirnight night = new Kelirnight();
        int hero = night.person(0, 1, 5, 0, 50, true);
        has("int hero = night.person(0, 1, 5, 0, 50, true);");
        int king = night.person(1, 3, 9, 10, 40, false);
        has("int king = night.person(1, 3, 9, 10, 40, false);");
        int puppet = night.figure(hero, 40);
        has("int puppet = night.figure(hero, 40);");
        night.scene(15, 0, 3, 60, -1, hero);
        has("night.scene(15, 0, 3, 60, -1, hero);");
        night.tap(0);
        has("night.tap(0);");
        tells("night.grip(puppet);", night.grip(puppet));
        tells("night.lift(puppet, 15);", night.lift(puppet, 15));
        tells("night.speak(hero, king, 5, 1);", night.speak(hero, king, 5, 1));
        tells("night.pass(30);", night.pass(30));
    }

    private static void everyCallIsNamed() {
        for (Method call : Kelirnight.class.getDeclaredMethods()) {
            if (Modifier.isPublic(call.getModifiers())) {
                String start = "| `" + call.getName() + "(";
                Check.truth("a row for " + call.getName(), lines.stream().anyMatch(row -> row.startsWith(start)), true);
            }
        }
    }

    private static String has(String call) {
        for (String line : lines) {
            if (line.startsWith(call)) {
                return line.substring(call.length()).trim();
            }
        }
        Check.report("there is no line " + call);
        return "";
    }

    private static void tells(String call, long answer) {
        told++;
        Check.truth(call + " is told to answer " + answer, has(call).startsWith("// " + answer + ":"), true);
    }
}
