import java.util.NoSuchElementException;

/** The boundary cases that promises 43 to 52 name, and those of the terms about scripts and undo. */
final class ScriptsBoundaries {
    private static final Class<IndexOutOfBoundsException> INDEX = Refusals.INDEX;
    private static final Class<IllegalArgumentException> ARGUMENT = Refusals.ARGUMENT;
    private static final Class<NoSuchElementException> MISSING = Refusals.MISSING;
    private static final Class<IllegalStateException> STATE = Refusals.STATE;

    private static final String NO_SUCH_SCRIPT = "there was no such script";

    /** One of each alternative, so short that none of its beginnings has the form. */
    private static final String[] COMMANDS = {"charge 0 c1", "fire 0 0", "skim 0", "tap 0 0 1", "back 0 0", "mould 1",
        "pour 0 0", "break 0", "melt 0 0", "wait 1"};

    /** Changes of what filledEverywhere answers. */
    private static final Refusals.Call[] CHANGES = {x -> x.charge(2, 'c', 1), x -> x.charge(1, 't', 1),
        x -> x.charge(0, 'l', 1), x -> x.charge(0, 'o', 1), x -> x.setFire(0, 1), x -> x.setFire(1, 5), x -> x.setFire(2, 0),
        x -> x.pourBack(0, 1), x -> x.pourBack(1, 2), x -> x.pourBack(2, 0), x -> x.meltDown(0, 0), x -> x.meltDown(10, 1),
        x -> x.advance(7)};

    private ScriptsBoundaries() {
    }

    static void run() {
        scriptTerms();
        grammar();
        renderFurnace();
        renderGradesAndOutput();
        type();
        runScript();
        errors();
        undo();
        snapshots();
    }

    private static void term(String sentence, Due.Call test) {
        Sentences.tested("Terms", sentence, test);
    }

    // scripts

    /** So many commands in 7 characters each, but for the last one's semicolon. */
    private static String waits(int count) {
        StringBuilder text = new StringBuilder("wait 1");
        for (int i = 1; i < count; i++) {
            text.append(";wait 1");
        }
        return text.toString();
    }

    private static String sixty() {
        String text = "wait 001;wait 001;wait 01;" + waits(5);
        Due.is("the length of the script", text.length(), 60);
        return text;
    }

    private static Foundry typed(String text) {
        Foundry x = new Foundry();
        Plants.type(x, text);
        return x;
    }

    /** The script has the form, whether its commands can be executed or not. */
    private static void form(String text) {
        Foundry x = typed(text);
        Due.thrownBy(() -> x.runScript());
        Due.is("errorPosition of '" + text + "'", Due.answer(() -> x.errorPosition()), "NoSuchElementException");
    }

    private static void error(String text, int want) {
        Foundry x = typed(text);
        Due.refused("runScript of '" + text + "'", ARGUMENT, () -> x.runScript());
        Due.is("errorPosition of '" + text + "'", Due.answer(() -> x.errorPosition()), "" + want);
        Due.refused("failedCommand of '" + text + "'", MISSING, () -> x.failedCommand());
    }

    private static void scriptTerms() {
        term("A script is typed into a buffer of at most 60 characters and then run.", () -> {
            Foundry x = typed(sixty());
            Refusals.refused("a 61st character", STATE, () -> typed(sixty()), y -> y.type(';'));
            Due.is("60 characters", x.runScript(), 8);
            Due.is("all of them were read", x.time(), 8);
            error(waits(8) + ";wait", 60);
            error(waits(8) + ";wai~", 59);
        });
        term("The commands stand for charge, setFire, skim, tap, pourBack, addMould, pour, breakOut, meltDown and advance, "
            + "with the arguments in the same order.", ScriptsBoundaries::commandsStandForCalls);
        term("The commands are executed in order, and either all of them take effect or none.",
            ScriptsBoundaries::allOrNone);
        term("The error position of a script that does not have this form is the index of the first character that cannot "
            + "continue any script of this form, or the length of the script if every character can and the end comes too "
            + "early.", ScriptsBoundaries::errorPositions);
    }

    private static void same(Refusals.Start start, String script, Refusals.Call call) {
        Foundry x = start.make();
        Due.is(script, Due.answer(() -> Plants.run(x, script)), "1");
        Foundry y = start.make();
        call.on(y);
        Due.is("the object after " + script, Plants.digest(x), Plants.digest(y));
    }

    private static Foundry molten() {
        Foundry x = Plants.hot(5, 60, 20, 8);
        x.tap(0, 1, 20);
        x.tap(0, 2, 20);
        x.addMould(1);
        x.addMould(2);
        for (int i = 0; i < 12; i++) {
            x.pour(1, 0);
            x.breakOut(0);
        }
        return x;
    }

    private static void commandsStandForCalls() {
        same(Foundry::new, "charge 2 c001", x -> x.charge(2, 'c', 1));
        same(Foundry::new, "charge 0 o50", x -> x.charge(0, 'o', 50));
        same(Foundry::new, "charge 1 t09", x -> x.charge(1, 't', 9));
        same(Foundry::new, "charge 1 l10", x -> x.charge(1, 'l', 10));
        same(Foundry::new, "fire 1 5", x -> x.setFire(1, 5));
        same(ScriptsBoundaries::molten, "fire 0 0", x -> x.setFire(0, 0));
        same(ScriptsBoundaries::molten, "skim 0", x -> x.skim(0));
        same(ScriptsBoundaries::molten, "tap 0 2 20", x -> x.tap(0, 2, 20));
        same(ScriptsBoundaries::molten, "tap 0 0 40", x -> x.tap(0, 0, 40));
        same(ScriptsBoundaries::molten, "back 1 2", x -> x.pourBack(1, 2));
        same(ScriptsBoundaries::molten, "mould 40", x -> x.addMould(40));
        same(ScriptsBoundaries::molten, "mould 001", x -> x.addMould(1));
        same(ScriptsBoundaries::molten, "pour 2 1", x -> x.pour(2, 1));
        same(() -> Plants.moulds(0), "mould 7", x -> x.addMould(7));
        same(() -> ChangesBoundaries.filled(3), "break 2", x -> x.breakOut(2));
        same(() -> Plants.store(12), "melt 11 2", x -> x.meltDown(11, 2));
        same(() -> Plants.store(12), "melt 001 0", x -> x.meltDown(1, 0));
        same(Foundry::new, "wait 200", x -> x.advance(200));
        same(Foundry::new, "wait 001", x -> x.advance(1));
    }

    private static void fails(String script, int failed) {
        Foundry x = Plants.busy();
        // What is typed there must not stand in front of the script.
        x.runScript();
        String before = Plants.digest(x);
        Due.is("runScript of '" + script + "'", Due.answer(() -> Plants.run(x, script)), "IllegalStateException");
        Due.is("the object after '" + script + "'", Plants.digest(x), before);
        Due.is("failedCommand of '" + script + "'", x.failedCommand(), failed);
    }

    private static void allOrNone() {
        Foundry x = new Foundry();
        Due.is("in order", Plants.run(x, "mould 3;mould 1;mould 2;charge 0 t1;charge 1 t2"), 5);
        Due.is("the moulds", x.volume(0) + " " + x.volume(1) + " " + x.volume(2), "3 1 2");
        Foundry y = Plants.moulds(1);
        Due.is("each after the one before", Plants.run(y, "charge 0 t1;fire 0 5;wait 5;tap 0 0 1;pour 0 0;break 0"), 6);
        Due.is("the ingot", Plants.inIngot(y, 0), "0 1 0 0");
        fails("skim 2", 0);
        fails("skim 2;wait 1;mould 1", 0);
        fails("wait 1;skim 2;mould 1", 1);
        fails("wait 200;mould 40;fire 0 0;charge 2 c50;break 0;skim 2", 5);
        fails("tap 0 1 40;back 0 2;melt 0 2;pour 1 1;break 1;wait 201", 5);
        fails("wait 1;wait 1;wait 1;wait 1;wait 1;wait 1;wait 1;wait 0", 7);
    }

    private static void errorPositions() {
        error("", 0);
        for (String command : COMMANDS) {
            for (int i = 0; i < command.length(); i++) {
                error(command.substring(0, i), i);
                error(command.substring(0, i) + "~" + command.substring(i + 1), i);
                error(command.substring(0, i) + "~", i);
                error("wait 1;" + command.substring(0, i), 7 + i);
                error("wait 200;" + command.substring(0, i) + " ;", 9 + (command.startsWith(" ", i) ? i + 1 : i));
            }
            form(command);
            error(command + " ", command.length());
            error(command + ";", command.length() + 1);
            error(command + ";;", command.length() + 1);
            error(command + "; ", command.length() + 1);
            error(command + ";" + command + ";", 2 * command.length() + 2);
        }
        afterALongerScript();
        // A word's letters that another word shares lead as far as the longest of them.
        error("bree", 3);
        error("bask", 2);
        error("mel 0 0", 3);
        error("moult 1", 4);
        error("to", 1);
        error("chargec", 6);
        error(waits(8) + ";", 56);
        error(waits(8) + ";wait", 60);
    }

    /** What was typed for a script before must not be read behind the end of the next one. */
    private static void afterALongerScript() {
        for (String command : COMMANDS) {
            for (int i = 0; i < command.length(); i++) {
                Foundry x = typed(command + ";" + command);
                Due.thrownBy(() -> x.runScript());
                Plants.type(x, command.substring(0, i));
                Due.refused("runScript of the first " + i + " of " + command, ARGUMENT, () -> x.runScript());
                Due.is("errorPosition of the first " + i + " of " + command, x.errorPosition(), i);
            }
            Foundry x = typed(command + ";" + command);
            Due.thrownBy(() -> x.runScript());
            Plants.type(x, command);
            Due.thrownBy(() -> x.runScript());
            Due.refused("errorPosition after " + command, MISSING, () -> x.errorPosition());
        }
    }

    // the grammar

    private static void grammar() {
        term("It has the form below, where braces mean zero or more repetitions, brackets an optional part, and a bar an "
            + "alternative.", () -> {
                form(waits(1));
                form(waits(2));
                form(waits(8));
                form("wait 1;wait 12;wait 123");
                for (String command : COMMANDS) {
                    form(command);
                    form(command + ";" + command);
                }
                error("{wait 1}", 0);
                error("wait [1]", 5);
                error("wait 1|wait 1", 6);
            });
        term("script = command { \";\" command }", () -> {
            form("skim 0");
            form("skim 0;skim 0");
            form("skim 0;skim 0;skim 0;skim 0;skim 0;skim 0;skim 0;skim 0");
            error("", 0);
            error(";", 0);
            error(";skim 0", 0);
            error("skim 0;", 7);
            error("skim 0;;skim 0", 7);
            error("skim 0,skim 0", 6);
            error("skim 0skim 0", 6);
        });
        term("command = \"charge \" digit \" \" material number | \"fire \" digit \" \" digit | \"skim \" digit | \"tap \" "
            + "digit \" \" digit \" \" number | \"back \" digit \" \" digit | \"mould \" number | \"pour \" digit \" \" "
            + "digit | \"break \" digit | \"melt \" number \" \" digit | \"wait \" number", ScriptsBoundaries::commandForms);
        term("material = \"c\" | \"t\" | \"l\" | \"o\"", () -> {
            for (char code = 32; code < 127; code++) {
                if ("ctlo".indexOf(code) >= 0) {
                    form("charge 0 " + code + "1");
                } else {
                    error("charge 0 " + code + "1", 9);
                }
            }
        });
        term("number = digit [ digit [ digit ] ]", () -> {
            for (String number : new String[] {"0", "9", "00", "09", "99", "000", "999"}) {
                form("wait " + number);
                form("melt " + number + " 9");
            }
            error("wait ", 5);
            error("wait ;", 5);
            error("wait -1", 5);
            error("wait +1", 5);
            error("wait 0000", 8);
            error("wait 1000", 8);
            error("wait 1 0", 6);
            error("melt  0", 5);
            error("melt 0000 0", 8);
            error("charge 0 c1000", 13);
            error("mould 1.", 7);
        });
    }

    private static void commandForms() {
        for (char code = 32; code < 127; code++) {
            boolean digit = "0123456789".indexOf(code) >= 0;
            String[] before = {"charge ", "fire 0 ", "skim ", "tap ", "tap 0 ", "tap 0 0 ", "back 0 ", "mould ", "pour 0 ",
                "break ", "melt 0 ", "wait "};
            String[] after = {" c1", "", "", " 0 1", " 1", "", "", "", "", "", "", ""};
            for (int i = 0; i < before.length; i++) {
                if (digit) {
                    form(before[i] + code + after[i]);
                } else {
                    error(before[i] + code + after[i], before[i].length());
                }
            }
        }
        // One digit alone, where a number may have three.
        error("charge 00 c1", 8);
        error("fire 00 0", 6);
        error("fire 0 00", 8);
        error("skim 00", 6);
        error("tap 00 0 1", 5);
        error("tap 0 00 1", 7);
        form("tap 0 0 001");
        error("back 0 00", 8);
        form("mould 001");
        error("pour 00 0", 6);
        error("break 00", 7);
        form("melt 000 0");
        error("melt 000 00", 10);
        form("wait 001");
        error("Skim 0", 0);
        error(" skim 0", 0);
        error("skim  0", 5);
        error("charge 0 c 1", 10);
        error("charge 0c1", 8);
        error("mould 1 1", 7);
    }

    // the output text

    private static void rendered(Foundry x, String want) {
        int length = x.renderFurnace(0);
        Due.is("the text", Plants.output(x, length), want);
        Due.is("its length", length, want.length());
        Due.refused("the character behind it", INDEX, () -> x.outputAt(length));
    }

    private static void renderFurnace() {
        Sentences.promise(43, "Replaces the output text by a description of the mixture in a furnace: for each material of "
            + "which it contains something, in their order, the character of the material and the mass, and then \"@\" and "
            + "the temperature, as in \"c40t5@1103\".", () -> {
                rendered(new Foundry(), "@20");
                rendered(Plants.hot(0, 0, 0, 0), "@1500");
                rendered(Plants.cold(1, 0, 0, 0), "c1@20");
                rendered(Plants.cold(0, 0, 0, 1), "o1@20");
                rendered(Plants.cold(100, 0, 0, 0), "c100@20");
                rendered(Plants.hot(10, 20, 30, 40), "c10t20l30o40@1500");
                rendered(Plants.cold(0, 9, 0, 10), "t9o10@20");
                Foundry x = Plants.hot(10, 20, 30, 40);
                x.renderFurnace(0);
                x.tap(0, 0, 40);
                x.tap(0, 1, 40);
                x.tap(0, 2, 20);
                rendered(x, "@1500");
            });
        Sentences.refusal(43, INDEX, "there is no such furnace", () -> {
            for (int i : Refusals.outside(3)) {
                Refusals.refused("furnace " + i, INDEX, Plants::busy, x -> x.renderFurnace(i));
            }
            for (int i = 0; i < 3; i++) {
                Due.is("furnace " + i, new Foundry().renderFurnace(i), 3);
            }
        });
        Sentences.promise(43, "Returns the length of the output text.", () -> {
            Due.is("the shortest", new Foundry().renderFurnace(0), 3);
            Due.is("the longest", Plants.hot(10, 20, 30, 40).renderFurnace(0), 17);
        });
    }

    private static void renderGradesAndOutput() {
        Sentences.promise(44, "The text is empty if there are no ingots.", () -> {
            Foundry x = new Foundry();
            x.renderFurnace(0);
            Due.is("renderGrades", x.renderGrades(), 0);
            Due.refused("outputAt(0)", INDEX, () -> x.outputAt(0));
            Foundry y = Plants.store(1);
            y.renderGrades();
            y.meltDown(0, 1);
            Due.is("renderGrades after the last ingot", y.renderGrades(), 0);
            Due.refused("outputAt(0) after the last ingot", INDEX, () -> y.outputAt(0));
        });
        Sentences.promise(44, "Replaces the output text by the grades of all ingots in the order of their indices, as in "
            + "\"bbxc\".", () -> {
                Foundry x = Plants.withIngot(0, 7, 3, 0);
                Due.is("one", Plants.output(x, x.renderGrades()), "s");
                x.charge(0, 'c', 40);
                x.advance(50);
                Plants.addIngot(x, 30);
                x.renderFurnace(0);
                Due.is("two", Plants.output(x, x.renderGrades()), "sc");
                Foundry y = Plants.store(12);
                Due.is("twelve", Plants.output(y, y.renderGrades()), "xxxxxxxxxxxx");
            });
        Sentences.promise(44, "Returns the length of the output text.", () -> {
            for (int i = 0; i <= 12; i++) {
                Due.is("renderGrades", Plants.store(i).renderGrades(), i);
            }
        });
        Sentences.promise(45, "Returns a character of the output text, which is empty initially.", () -> {
            Refusals.refused("outputAt(0)", INDEX, Foundry::new, x -> x.outputAt(0));
            Foundry x = Plants.cold(7, 0, 0, 0);
            x.renderFurnace(0);
            Due.is("the first", x.outputAt(0), 'c');
            Due.is("the last", x.outputAt(4), '0');
        });
        Sentences.refusal(45, INDEX, "there is no such index", () -> {
            for (int i : Refusals.outside(3)) {
                Refusals.refused("index " + i, INDEX, () -> {
                    Foundry x = new Foundry();
                    x.renderFurnace(0);
                    return x;
                }, x -> x.outputAt(i));
            }
        });
    }

    // typing and running

    private static void type() {
        Sentences.promise(46, "Returns the length of the script buffer.", () -> {
            Foundry x = new Foundry();
            for (int i = 1; i <= 60; i++) {
                Due.is("type", x.type('a'), i);
            }
            Due.thrownBy(() -> x.runScript());
            Due.is("type after runScript", x.type('a'), 1);
        });
        Sentences.refusal(46, ARGUMENT, "the character code is not between 32 and 126", () -> {
            // The last eight bits of 288 and of 0x8020 are 32.
            for (int code : new int[] {31, 127, 0, 10, 128, 160, 255, 256, 288, 382, 0x7fff, 0x8020, 0xffff}) {
                Refusals.refused("character " + code, ARGUMENT, () -> typed("wait"), x -> x.type((char) code));
            }
            for (char code = 32; code <= 126; code++) {
                Due.is("character " + (int) code, typed("wait").type(code), 5);
            }
        });
        Sentences.refusal(46, STATE, "the script buffer has 60 characters", () -> {
            Refusals.refused("a 61st character", STATE, () -> typed(sixty()), x -> x.type('a'));
            Due.is("a 60th character", typed(sixty().substring(0, 59)).type('1'), 60);
        });
    }

    private static void runScript() {
        Sentences.promise(47, "The buffer is empty afterwards, also if an exception is thrown.", () -> {
            for (String script : new String[] {"wait 1", "wait 0", "wait", "", sixty(), sixty().substring(0, 59) + ";"}) {
                Foundry x = typed(script);
                Due.thrownBy(() -> x.runScript());
                Due.is("type after '" + script + "'", x.type('w'), 1);
            }
            Foundry x = typed("wait 1");
            x.runScript();
            Due.refused("nothing is left to run", ARGUMENT, () -> x.runScript());
            Due.is("the position of that error", x.errorPosition(), 0);
        });
        Sentences.promise(47, "Returns the number of commands.", () -> {
            for (int i = 1; i <= 8; i++) {
                Due.is("runScript", Plants.run(new Foundry(), waits(i)), i);
            }
        });
        Sentences.refusal(47, ARGUMENT, "the script does not have the required form; errorPosition then returns its error "
            + "position", () -> {
                error("", 0);
                error("wait 1;", 7);
                error("wait 1000", 8);
                error("skim 0;skim", 11);
                error(waits(8) + ";wait", 60);
                Foundry x = Plants.busy();
                Plants.type(x, ";mould 1;");
                Due.refused("a form that ends too early", ARGUMENT, () -> x.runScript());
                Due.is("its error position", x.errorPosition(), 15);
                Due.is("the command that failed earlier", x.failedCommand(), 1);
                Due.is("no command took effect", x.mouldCount(), 2);
            });
        Sentences.refusal(47, STATE, "the method for a command throws an exception; no command takes effect, and "
            + "failedCommand then returns the index of that command", ScriptsBoundaries::throwingCommands);
    }

    private static void throwingCommands() {
        String[] throwing = {"charge 3 c1", "charge 9 c1", "charge 0 c0", "charge 0 c51", "charge 1 c31", "fire 3 0",
            "fire 0 6", "skim 3", "skim 0", "skim 1", "tap 3 0 1", "tap 0 3 1", "tap 0 1 0", "tap 0 1 41", "tap 2 1 1",
            "tap 1 1 1", "tap 0 0 9", "back 3 0", "back 0 3", "back 1 0", "back 0 1", "mould 0", "mould 41", "pour 3 0",
            "pour 0 2", "pour 0 0", "pour 1 1", "break 2", "break 1", "melt 1 0", "melt 999 0", "melt 0 3", "wait 0",
            "wait 201", "wait 999"};
        for (String command : throwing) {
            fails(command, 0);
            fails("fire 2 5;" + command, 1);
            fails("fire 2 5;fire 2 4;" + command + ";fire 2 3", 2);
        }
        Foundry x = Plants.moulds(5);
        Plants.type(x, "mould 40;mould 1");
        Due.refused("a seventh mould", STATE, () -> x.runScript());
        Due.is("mouldCount", x.mouldCount(), 5);
        Foundry y = Plants.store(11);
        Plants.type(y, "pour 0 2;break 2;pour 0 2;break 2");
        Due.refused("a thirteenth ingot", STATE, () -> y.runScript());
        Due.is("failedCommand", y.failedCommand(), 3);
        Due.is("ingotCount", y.ingotCount(), 11);
    }

    private static void errors() {
        Sentences.refusal(48, MISSING, NO_SUCH_SCRIPT, () -> {
            Refusals.refused("a new object", MISSING, Foundry::new, x -> x.errorPosition());
            Foundry x = typed("wait 1");
            Due.refused("a script that was not run", MISSING, () -> x.errorPosition());
            x.runScript();
            Due.refused("a script of the form", MISSING, () -> x.errorPosition());
            Plants.type(x, "wait 0");
            Due.thrownBy(() -> x.runScript());
            Due.refused("a script with a failed command", MISSING, () -> x.errorPosition());
        });
        Sentences.promise(48, "Returns the error position of the latest script that did not have the required form.", () -> {
            Foundry x = typed("wait x");
            Due.thrownBy(() -> x.runScript());
            Due.is("the first", x.errorPosition(), 5);
            Due.thrownBy(() -> x.runScript());
            Due.is("an empty script", x.errorPosition(), 0);
            Plants.type(x, "wait 1;");
            Due.is("before it is run", x.errorPosition(), 0);
            Due.thrownBy(() -> x.runScript());
            Plants.run(x, "wait 1");
            Plants.type(x, "wait 0");
            Due.thrownBy(() -> x.runScript());
            Due.is("after others of the form", x.errorPosition(), 7);
        });
        Sentences.refusal(49, MISSING, NO_SUCH_SCRIPT, () -> {
            Refusals.refused("a new object", MISSING, Foundry::new, x -> x.failedCommand());
            Foundry x = typed("wait 0");
            Due.refused("a script that was not run", MISSING, () -> x.failedCommand());
            Plants.type(x, ";");
            Due.thrownBy(() -> x.runScript());
            Due.refused("a script of another form", MISSING, () -> x.failedCommand());
            Plants.run(x, "wait 1");
            Due.refused("a script without a failed command", MISSING, () -> x.failedCommand());
        });
        Sentences.promise(49, "Returns the index of the command, counted from 0.", () -> {
            fails("skim 2", 0);
            fails("wait 1;skim 2", 1);
            fails("wait 1;wait 1;wait 1;wait 1;wait 1;wait 1;wait 1;skim 2", 7);
        });
        Sentences.promise(49, "Returns the index of the command that failed in the latest script with a failed command.",
            () -> {
                Foundry x = typed("wait 1;wait 0");
                Due.thrownBy(() -> x.runScript());
                Plants.run(x, "wait 1");
                Due.thrownBy(() -> x.runScript());
                Due.is("after scripts without one", x.failedCommand(), 1);
                Plants.type(x, "wait 0");
                Due.is("before it is run", x.failedCommand(), 1);
                Due.thrownBy(() -> x.runScript());
                Due.is("the next one", x.failedCommand(), 0);
            });
    }

    // undo and the snapshot

    static void eightChanges() {
        for (int changes = 0; changes <= 18; changes++) {
            Foundry x = new Foundry();
            for (int i = 1; i <= changes; i++) {
                x.advance(i);
            }
            int time = changes * (changes + 1) / 2;
            for (int i = 0; i < Math.min(changes, 8); i++) {
                Due.is("undo " + i + " of " + changes, x.undo(), Math.min(changes, 8) - i - 1);
                time -= changes - i;
                Due.is("the time after undo " + i + " of " + changes, x.time(), time);
            }
            Due.refused("one more than 8 of " + changes, MISSING, () -> x.undo());
            Due.is("the time after that", x.time(), time);
        }
    }

    /** Every furnace, ladle, mould and ingot holds something, of the greatest numbers of them. */
    private static Foundry filledEverywhere() {
        Foundry x = Plants.store(12);
        Plants.charge(x, 0, 0, 0, 0, 8);
        Plants.charge(x, 1, 5, 6, 7, 8);
        Plants.charge(x, 2, 9, 10, 11, 12);
        x.setFire(1, 2);
        x.setFire(2, 3);
        x.advance(10);
        x.skim(0);
        x.tap(0, 1, 20);
        x.tap(0, 2, 21);
        for (int i = 3; i < 6; i++) {
            x.addMould(i + 1);
        }
        for (int i = 0; i < 6; i++) {
            x.pour(i < 3 ? 0 : i < 5 ? 1 : 2, i);
        }
        return x;
    }

    private static void everyPlaceIsCovered() {
        String before = Plants.digest(filledEverywhere());
        Foundry all = filledEverywhere();
        all.save();
        for (int i = 0; i < CHANGES.length; i++) {
            Foundry x = filledEverywhere();
            CHANGES[i].on(x);
            Due.is("change " + i + " can be seen", Plants.digest(x).equals(before), false);
            x.undo();
            Due.is("the object after undo of change " + i, Plants.digest(x), before);
            CHANGES[i].on(all);
        }
        for (int i = 0; i < 6; i++) {
            if (all.ingotCount() == 12) {
                all.meltDown(11, 2);
            }
            all.breakOut(i);
        }
        all.restore();
        Due.is("the object after restore", Plants.digest(all), before);
        Foundry emptied = filledEverywhere();
        emptied.save();
        for (int i = 0; i < 12; i++) {
            emptied.meltDown(0, 0);
        }
        emptied.restore();
        Due.is("the object after all ingots were melted down", Plants.digest(emptied), before);
        volumesAreCovered();
    }

    /** The moulds of the snapshot are undone, and others take their places. */
    private static void volumesAreCovered() {
        Foundry x = Plants.moulds(6);
        x.save();
        for (int i = 0; i < 6; i++) {
            x.undo();
        }
        for (int i = 0; i < 6; i++) {
            x.addMould(40 - i);
        }
        x.restore();
        Due.is("the moulds of the snapshot", Plants.digest(x), Plants.digest(Plants.moulds(6)));
    }

    static void whatUndoCovers() {
        everyPlaceIsCovered();
        Foundry x = Plants.busy();
        String before = Plants.digest(x);
        x.charge(2, 'c', 1);
        x.renderFurnace(2);
        x.type('9');
        x.undo();
        Due.is("the object after undo", Plants.digest(x), before);
        Due.is("the output text after undo", Plants.output(x, 5), "c1@20");
        Due.is("the script buffer after undo", x.type(';'), 8);
        Due.is("the error position after undo", x.errorPosition(), 7);
        Due.is("the failed command after undo", x.failedCommand(), 1);
        x.setFire(2, 4);
        x.save();
        x.undo();
        Due.is("the fire after undo", x.fire(2), 0);
        x.restore();
        Due.is("the snapshot after undo", x.fire(2), 4);
        Due.is("the output text after restore", Plants.output(x, 5), "c1@20");
        Due.is("the script buffer after restore", x.type('x'), 9);
        Due.is("the error position after restore", x.errorPosition(), 7);
        Due.is("the failed command after restore", x.failedCommand(), 1);
        Due.refused("the script buffer is run", ARGUMENT, () -> x.runScript());
        Due.is("what it held", x.errorPosition(), 8);
    }

    private static void undo() {
        Sentences.refusal(50, MISSING, "there is nothing to undo", () -> {
            Refusals.refused("a new object", MISSING, Foundry::new, x -> x.undo());
            Foundry x = Plants.busy();
            x.restore();
            Due.refused("undo after restore", MISSING, () -> x.undo());
            x.advance(1);
            x.undo();
            Due.refused("undo after undo", MISSING, () -> x.undo());
            Due.thrownBy(() -> x.advance(0));
            Due.refused("undo after a call that throws", MISSING, () -> x.undo());
        });
        Sentences.promise(50, "Returns the number of changes that can still be undone.", () -> {
            for (int changes = 1; changes <= 10; changes++) {
                Foundry x = new Foundry();
                for (int i = 0; i < changes; i++) {
                    x.setFire(0, 0);
                }
                Due.is("undo after " + changes, x.undo(), Math.min(changes, 8) - 1);
            }
        });
        Sentences.promise(50, "Undoes the latest change that has not been undone.", ScriptsBoundaries::undoneAndDoneAgain);
    }

    private static void undoneAndDoneAgain() {
        Foundry x = new Foundry();
        for (int i = 1; i <= 9; i++) {
            x.advance(i);
        }
        x.undo();
        x.undo();
        Due.is("the time after two", x.time(), 28);
        x.advance(100);
        Due.is("the latest first", x.undo(), 6);
        Due.is("the time when it is undone", x.time(), 28);
        Due.is("then the latest before it", x.undo(), 5);
        Due.is("the time when that is undone", x.time(), 21);
        // New changes fill up what can be undone, and push out what is oldest.
        for (int i = 0; i < 4; i++) {
            x.advance(1);
        }
        for (int i = 0; i < 8; i++) {
            Due.is("undo of eight", x.undo(), 7 - i);
        }
        Due.is("the time when eight are undone", x.time(), 3);
        Due.refused("a ninth", MISSING, () -> x.undo());
        Foundry y = new Foundry();
        Plants.run(y, waits(8));
        Due.is("a script is one change", y.undo(), 0);
        Due.is("the time when a script is undone", y.time(), 0);
    }

    private static void snapshots() {
        Sentences.promise(51, "Takes a snapshot, which replaces an earlier one.", () -> {
            Foundry x = new Foundry();
            x.save();
            x.advance(5);
            x.save();
            x.advance(7);
            x.restore();
            Due.is("the later one", x.time(), 5);
            Due.is("a snapshot is no change", Due.answer(() -> x.undo()), "NoSuchElementException");
        });
        Sentences.promise(51, "Returns the number of ingots.", () -> {
            for (int i = 0; i <= 12; i++) {
                Due.is("save", Plants.store(i).save(), i);
            }
        });
        Sentences.refusal(52, STATE, "there is no snapshot", () -> {
            Refusals.refused("a new object", STATE, Foundry::new, x -> x.restore());
            Refusals.refused("after changes", STATE, () -> Plants.store(3), x -> x.restore());
            Foundry x = new Foundry();
            x.save();
            Due.is("after save", x.restore(), 0);
        });
        Sentences.promise(52, "Restores the snapshot, which is kept. Afterwards there is nothing to undo.", () -> {
            String saved = Plants.digest(Plants.store(12));
            Foundry x = Plants.store(12);
            x.save();
            for (int i = 0; i < 2; i++) {
                Plants.run(x, "melt 0 1;melt 10 1;mould 9;fire 2 5;wait 9;back 0 1");
                x.restore();
                Due.is("the object", Plants.digest(x), saved);
                Due.refused("undo", MISSING, () -> x.undo());
            }
        });
        Sentences.promise(52, "Returns the number of ingots.", () -> {
            for (int i = 0; i <= 12; i += 12) {
                Foundry x = Plants.store(i);
                x.save();
                x.addMould(1);
                Due.is("restore", x.restore(), i);
            }
        });
    }
}
