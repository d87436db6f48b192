import java.io.IOException;
import java.nio.file.Files;
import java.nio.file.Path;
import java.util.regex.Matcher;
import java.util.regex.Pattern;

/** The calls that README.md shows answer what it says behind them; its lists name what the project has. */
public final class ReadmeTest {
    private static final Pattern MADE = Pattern.compile("DropFour game = new DropFour\\((\\d+), (\\d+)\\);.*");
    private static final Pattern CALL = Pattern.compile("game\\.(\\w+)\\(([\\d, ]*)\\); +// ([\\w.-]+)(: .*)?");

    private final Check check = new Check();
    private DropFour game;

    public static void main(String[] args) throws IOException {
        new ReadmeTest().all();
    }

    private void all() throws IOException {
        String readme = Files.readString(Path.of("README.md"));
        String shown = readme.split("```java\n")[1].split("```")[0];
        for (String line : shown.split("\n")) {
            lookAt(line);
        }
        for (String name : new String[] {"drop", "back", "turn", "winner", "at", "empty", "open", "threats", "value",
            "valueOf", "best", "beats"}) {
            check.same("README.md shows " + name, shown.contains("game." + name + "("), true);
        }
        check.same("README.md tells how to run the tests", readme.contains("\n.ci/run\n"), true);
        namesEveryTest(readme);
        check.end("ReadmeTest");
    }

    private void lookAt(String line) {
        Matcher made = MADE.matcher(line);
        Matcher call = CALL.matcher(line);
        if (made.matches()) {
            game = new DropFour(Integer.parseInt(made.group(1)), Integer.parseInt(made.group(2)));
        } else if (call.matches()) {
            String[] arguments = call.group(2).isEmpty() ? new String[0] : call.group(2).split(", ");
            check.same("README.md: " + line, Check.outcome(() -> answer(call.group(1), arguments)).toString(), call.group(3));
        } else {
            check.same("README.md: a line of its example", line, "a new object, or a call and its answer");
        }
    }

    private Object answer(String name, String[] arguments) {
        int[] numbers = new int[arguments.length];
        for (int i = 0; i < numbers.length; i++) {
            numbers[i] = Integer.parseInt(arguments[i]);
        }
        return switch (name) {
            case "drop" -> game.drop(numbers[0]);
            case "back" -> game.back();
            case "turn" -> game.turn();
            case "winner" -> game.winner();
            case "at" -> game.at(numbers[0], numbers[1]);
            case "empty" -> game.empty();
            case "open" -> game.open(numbers[0]);
            case "threats" -> game.threats(numbers[0]);
            case "value" -> game.value();
            case "valueOf" -> game.valueOf(numbers[0]);
            case "best" -> game.best();
            case "beats" -> game.beats();
            default -> "no such call";
        };
    }

    private void namesEveryTest(String readme) throws IOException {
        try (var files = Files.list(Path.of("src/test/java"))) {
            for (Path file : (Iterable<Path>) files::iterator) {
                String name = file.getFileName().toString().replace(".java", "");
                if (name.endsWith("Test") || name.endsWith("Sentences") && !name.equals("Sentences")) {
                    check.same("README.md names " + name, readme.contains("`" + name + "`"), true);
                }
            }
        }
    }
}
