import java.io.IOException;
import java.nio.file.Files;
import java.nio.file.Path;
import java.util.List;
import java.util.stream.Collectors;

/** The examples of README.md, which must stand here line by line, answer what is written beside them there. */
public final class ReadmeTest {
    /** From the project's folder, in which .ci/run runs the tests. */
    private static final Path README = Path.of("README.md");
    private static final Path THIS = Path.of("src", "test", "java", "ReadmeTest.java");

    public static void main(String[] args) throws IOException {
        everyLineOfTheExamplesStandsHere();
        runTheExamples();
        Due.end();
    }

    private static void runTheExamples() {
        Foundry foundry = new Foundry();
        foundry.charge(0, 't', 28);
        foundry.charge(0, 'l', 12);
        foundry.setFire(0, 5);
        foundry.advance(foundry.minutesUntilMolten(0));
        foundry.tap(0, 0, 20);
        int mould = foundry.addMould(20);
        foundry.pour(0, mould);
        int ingot = foundry.breakOut(mould);
        char grade = foundry.grade(ingot);
        Due.is("the grade", grade, 's');

        for (char character : "tap 0 0 5;mould 5;pour 0 1;break 1".toCharArray()) {
            foundry.type(character);
        }
        int commands = foundry.runScript();
        int ingots = foundry.ingotCount();
        Due.is("the commands", commands, 4);
        Due.is("the ingots", ingots, 2);

        foundry.undo();
        int left = foundry.ingotCount();
        foundry.save();
        foundry.meltDown(ingot, 0);
        foundry.restore();
        char again = foundry.grade(ingot);
        Due.is("the ingots after undo", left, 1);
        Due.is("the grade after restore", again, 's');

        int length = foundry.renderFurnace(0);
        StringBuilder text = new StringBuilder();
        for (int i = 0; i < length; i++) {
            text.append(foundry.outputAt(i));
        }
        Due.is("the text", text.toString(), "t14l6@290");

        refusedScript(foundry);
    }

    private static void refusedScript(Foundry foundry) {
        int before = foundry.time();
        boolean refused = false;
        for (char character : "wait 5;skim 0".toCharArray()) {
            foundry.type(character);
        }
        try {
            foundry.runScript();
        } catch (IllegalStateException e) {
            int failed = foundry.failedCommand();
            Due.is("the failed command", failed, 1);
            refused = true;
        }
        Due.is("the script is refused", refused, true);
        Due.is("the time", foundry.time(), before);
    }

    private static void everyLineOfTheExamplesStandsHere() throws IOException {
        List<String> here = Files.readAllLines(THIS).stream().map(String::strip).collect(Collectors.toList());
        boolean inExample = false;
        int lines = 0;
        for (String line : Files.readAllLines(README)) {
            if (line.startsWith("```")) {
                inExample = line.equals("```java");
            } else if (inExample) {
                String code = line.replaceFirst("//.*", "").strip();
                Due.is("ReadmeTest has the line \"" + code + "\"", here.contains(code), true);
                lines++;
            }
        }
        Due.is("there are examples", lines > 0, true);
    }
}
