import java.util.NoSuchElementException;
import java.util.regex.Matcher;
import java.util.regex.Pattern;

/** Promises 43 to 49: the output text and scripts. */
public final class ScriptsTest {
    private static final Class<IndexOutOfBoundsException> INDEX = IndexOutOfBoundsException.class;
    private static final Class<IllegalArgumentException> ARGUMENT = IllegalArgumentException.class;
    private static final Class<NoSuchElementException> MISSING = NoSuchElementException.class;
    private static final Class<IllegalStateException> STATE = IllegalStateException.class;

    private static final String NUMBER = "[0-9]{1,3}";
    private static final String COMMAND = "(charge [0-9] [ctlo]" + NUMBER + "|fire [0-9] [0-9]|skim [0-9]|tap [0-9] [0-9] "
            + NUMBER + "|back [0-9] [0-9]|mould " + NUMBER + "|pour [0-9] [0-9]|break [0-9]|melt " + NUMBER
            + " [0-9]|wait " + NUMBER + ")";
    private static final Pattern SCRIPT = Pattern.compile(COMMAND + "(;" + COMMAND + ")*");

    public static void main(String[] args) {
        renderFurnace();
        renderGrades();
        outputAt();
        type();
        everyCommand();
        wholeOrNothing();
        failedCommands();
        errorPositions();
        errorPositionsOfSpoiltScripts();
        Due.end();
    }

    private static void renderFurnace() {
        Foundry x = new Foundry();
        for (int i : new int[] {-1, 3, Integer.MIN_VALUE, Integer.MAX_VALUE}) {
            Due.refused("43 no such furnace", INDEX, () -> x.renderFurnace(i));
        }
        Due.is("43 an empty furnace", Plants.output(x, x.renderFurnace(0)), "@20");
        x.charge(1, 'c', 40);
        x.charge(1, 't', 5);
        x.setFire(1, 5);
        x.advance(24);
        Due.is("43 two of four", Plants.output(x, x.renderFurnace(1)), "c40t5@1100");
        x.charge(2, 'o', 4);
        x.charge(2, 'l', 30);
        x.charge(2, 'c', 50);
        x.charge(2, 'c', 2);
        x.charge(2, 't', 1);
        Due.is("43 all four", Plants.output(x, x.renderFurnace(2)), "c52t1l30o4@20");
        Due.refused("43 the text is replaced", INDEX, () -> x.outputAt(13));
    }

    private static void renderGrades() {
        Foundry x = new Foundry();
        x.renderFurnace(0);
        Due.is("44 no ingots", x.renderGrades(), 0);
        Due.refused("44 an empty text", INDEX, () -> x.outputAt(0));
        Foundry y = Plants.withIngot(0, 7, 3, 0);
        y.charge(0, 'c', 40);
        y.advance(50);
        Plants.addIngot(y, 30);
        Due.is("44 two ingots", Plants.output(y, y.renderGrades()), "sc");
        y.meltDown(0, 1);
        Due.is("44 one ingot", Plants.output(y, y.renderGrades()), "c");
    }

    private static void outputAt() {
        Foundry x = new Foundry();
        Due.refused("45 empty at first", INDEX, () -> x.outputAt(0));
        x.charge(0, 'l', 12);
        int length = x.renderFurnace(0);
        Due.is("45 length", length, 6);
        Due.is("45 the first", x.outputAt(0), 'l');
        Due.is("45 the last", x.outputAt(5), '0');
        for (int i : new int[] {-1, 6, Integer.MIN_VALUE, Integer.MAX_VALUE}) {
            Due.refused("45 no such index", INDEX, () -> x.outputAt(i));
        }
        x.charge(0, 'c', 1);
        Due.is("45 the text stays", Plants.output(x, 6), "l12@20");
        x.undo();
        x.undo();
        Due.is("45 undo leaves the text", Plants.output(x, 6), "l12@20");
    }

    private static void type() {
        Foundry x = new Foundry();
        for (char c : new char[] {0, 10, 31, 127, 128, 233, 0xffff}) {
            Due.refused("46 no such character", ARGUMENT, () -> x.type(c));
        }
        Due.is("46 a space", x.type(' '), 1);
        Due.is("46 a tilde", x.type('~'), 2);
        for (int i = 3; i <= 60; i++) {
            Due.is("46 type", x.type((char) (32 + i)), i);
        }
        Due.refused("46 a full buffer", STATE, () -> x.type('a'));
        Due.refused("46 the character is looked at first", ARGUMENT, () -> x.type((char) 127));
        Due.refused("47 the form", ARGUMENT, () -> x.runScript());
        Due.is("46 the buffer is empty", x.type('a'), 1);
    }

    private static void everyCommand() {
        Foundry x = new Foundry();
        Due.is("47 heat", Plants.run(x, "charge 0 t30;charge 0 l010;charge 0 o4;fire 0 5;wait 20"), 5);
        Due.is("47 charged", x.charged('t'), 30);
        Due.is("47 time", x.time(), 20);
        Due.is("47 fire", x.fire(0), 5);
        Due.is("47 cast", Plants.run(x, "skim 0;tap 0 2 20;mould 8;pour 2 0;break 0;back 2 1"), 6);
        Due.is("47 slag", x.slag('o'), 4);
        Due.is("47 slag of tin", x.slag('t'), 1);
        Due.is("47 ingotCount", x.ingotCount(), 1);
        Due.is("47 back", x.furnaceTotal(1), 12);
        Due.is("47 the ladle is empty", x.ladleTotal(2), 0);
        Due.is("47 melt", Plants.run(x, "melt 000 2"), 1);
        Due.is("47 melted down", x.furnaceTotal(2), 8);
        Due.is("47 charge of copper", Plants.run(x, "charge 2 c5"), 1);
        Due.is("47 copper", x.furnaceMass(2, 'c'), 5);
        Due.is("47 eight commands", Plants.run(x, "wait 1;wait 1;wait 1;wait 1;wait 1;wait 1;wait 1;wait 1"), 8);
        Due.is("47 eight minutes", x.time(), 28);
        String sixty = "wait 1;wait 1;wait 1;wait 1;wait 1;wait 001;wait 01;wait 010";
        Due.is("47 sixty characters", sixty.length(), 60);
        Due.is("47 a full buffer", Plants.run(x, sixty), 8);
        Due.is("47 seventeen minutes", x.time(), 45);
        Due.refused("48 no such script", MISSING, () -> x.errorPosition());
        Due.refused("49 no such script", MISSING, () -> x.failedCommand());
    }

    private static void wholeOrNothing() {
        Foundry x = new Foundry();
        x.charge(0, 't', 5);
        String before = Plants.digest(x);
        Plants.type(x, "charge 0 t5;fire 0 5;mould 5;wait 10;skim 0;wait 5");
        Due.refused("47 a command fails", STATE, () -> x.runScript());
        Due.is("47 no command takes effect", Plants.digest(x), before);
        Due.is("49 failedCommand", x.failedCommand(), 4);
        Due.is("47 the buffer is empty", x.type('w'), 1);
        Due.refused("47 the form", ARGUMENT, () -> x.runScript());
        Due.is("49 failedCommand stays", x.failedCommand(), 4);
        Due.is("50 a failed script is no change", x.undo(), 0);
        Due.refused("50 nothing more", MISSING, () -> x.undo());
    }

    private static void failedCommands() {
        Due.refused("49 no script at all", MISSING, () -> new Foundry().failedCommand());
        String[] failing = {"charge 3 c1", "charge 0 c0", "charge 0 c51", "fire 9 0", "fire 0 6", "skim 0", "tap 0 0 0",
            "tap 0 0 41", "tap 0 0 1", "back 0 0", "mould 0", "mould 41", "pour 0 0", "break 0", "melt 0 0", "melt 999 0",
            "wait 0", "wait 201", "wait 999"};
        for (String script : failing) {
            Foundry x = new Foundry();
            Plants.type(x, script);
            Due.refused("47 " + script, STATE, () -> x.runScript());
            Due.is("49 " + script, x.failedCommand(), 0);
            Plants.type(x, "wait 1;mould 1;" + script);
            Due.refused("47 behind two: " + script, STATE, () -> x.runScript());
            Due.is("49 behind two: " + script, x.failedCommand(), 2);
            Due.is("47 the time", x.time(), 0);
            Due.is("47 the moulds", x.mouldCount(), 0);
            Plants.run(x, "wait 1");
            Due.is("49 a good script leaves it", x.failedCommand(), 2);
            Due.refused("48 none was of another form", MISSING, () -> x.errorPosition());
        }
    }

    private static void error(Foundry x, String script, int want) {
        Plants.type(x, script);
        Due.refused("47 '" + script + "'", ARGUMENT, () -> x.runScript());
        Due.is("48 '" + script + "'", x.errorPosition(), want);
    }

    private static void errorPositions() {
        Foundry x = new Foundry();
        Due.refused("48 no script at all", MISSING, () -> x.errorPosition());
        error(x, "", 0);
        error(x, " ", 0);
        error(x, ";", 0);
        error(x, "x", 0);
        error(x, "Wait 1", 0);
        error(x, "wait 1;", 7);
        error(x, "wait 1;;", 7);
        error(x, "wait 1; wait 1", 7);
        error(x, "wait 1 ", 6);
        error(x, "wait 1234", 8);
        error(x, "wait ", 5);
        error(x, "wait", 4);
        error(x, "wait;", 4);
        error(x, "wai1", 3);
        error(x, "bo", 1);
        error(x, "bax", 2);
        error(x, "bre 0", 3);
        error(x, "mo", 2);
        error(x, "meltd", 4);
        error(x, "mx", 1);
        error(x, "fire 0 12", 8);
        error(x, "fire 10 1", 6);
        error(x, "fire 0  1", 7);
        error(x, "skim 00", 6);
        error(x, "charge 0 x1", 9);
        error(x, "charge 0 c", 10);
        error(x, "charge 0 c 1", 10);
        error(x, "charge 0 c1234", 13);
        error(x, "melt 12a 1", 7);
        error(x, "melt 1234 1", 8);
        error(x, "melt 1;", 6);
        error(x, "tap 0 0 1;tap 0 0", 17);
        error(x, "wait 1;skim x", 12);
        Due.is("47 no command took effect", x.time(), 0);
        Plants.type(x, "skim 0");
        Due.refused("47 skim 0", STATE, () -> x.runScript());
        Due.is("48 a failed command leaves it", x.errorPosition(), 12);
        Plants.run(x, "wait 1");
        Due.is("48 a good script leaves it", x.errorPosition(), 12);
    }

    /** The regular expressions of the library find the error position in a way of their own. */
    private static int expectedError(String script) {
        if (SCRIPT.matcher(script).matches()) {
            return -1;
        }
        for (int length = 1; length <= script.length(); length++) {
            Matcher matcher = SCRIPT.matcher(script.substring(0, length));
            if (!matcher.matches() && !matcher.hitEnd()) {
                return length - 1;
            }
        }
        return script.length();
    }

    private static void errorPositionsOfSpoiltScripts() {
        String[] good = {"charge 0 c12;wait 1", "fire 2 5;skim 0", "tap 0 1 40;back 1 2", "mould 9;melt 12 0",
            "pour 0 0;break 1;wait 200"};
        String signs = "0 19;cbmtlowaepr~";
        Foundry x = new Foundry();
        int used = 0;
        for (String script : good) {
            for (int at = 0; at <= script.length(); at++) {
                for (int s = 0; s < signs.length(); s++) {
                    String end = script.substring(Math.min(at + 1, script.length()));
                    String[] spoilt = {script.substring(0, at), script.substring(0, at) + end,
                        script.substring(0, at) + signs.charAt(s) + end,
                        script.substring(0, at) + signs.charAt(s) + script.substring(at)};
                    for (String text : spoilt) {
                        x = used++ % 10 == 0 ? new Foundry() : x;
                        compare(x, text);
                    }
                }
            }
        }
    }

    private static void compare(Foundry x, String text) {
        int want = expectedError(text);
        Plants.type(x, text);
        RuntimeException thrown = Due.thrownBy(() -> x.runScript());
        boolean refused = thrown != null && thrown.getClass() == ARGUMENT;
        Due.is("47 form of '" + text + "'", refused, want >= 0);
        if (want >= 0 && refused) {
            Due.is("48 error position of '" + text + "'", x.errorPosition(), want);
        }
    }
}
